/-! THE LAYER OF VIEWS. A view V says of some addresses what cell lies there; K: from any heap that holds the view, any locals that hold the list lv, the machine comes to Q. All cells of a view lie from 'base' on; nothing below base is ever written. -/
abbrev gv_V : Type := Nat → Option va_E
def gv_H (D : va_G) (base : Nat) (V : gv_V) (H : Heap) : Prop := ∀ (q : Nat) (x : va_E), V q = some x → va_at D classes (q, x) H ∧ base ≤ q
def gv_A (base : Nat) : Nat → Prop := fun q => base ≤ q
def gv_up (V : gv_V) (a : Nat) (x : va_E) : gv_V := fun q => if q = a then some x else V q
theorem gv_up_s {V : gv_V} {a : Nat} {x : va_E} : gv_up V a x a = some x := if_pos rfl
theorem gv_up_n {V : gv_V} {a q : Nat} {x : va_E} (h : q ≠ a) : gv_up V a x q = V q := if_neg h
theorem gv_ne {V : gv_V} {a b : Nat} {x y : va_E} (ha : V a = some x) (hb : V b = some y) (h : x ≠ y) : b ≠ a := fun e => h (Option.some.inj (ha.symm.trans ((congrArg V e).symm.trans hb)))
theorem gv_nf {V : gv_V} {q b : Nat} {x : va_E} (hq : V q = none) (hb : V b = some x) : b ≠ q := fun e => by
  have h := (congrArg V e).symm.trans hb
  rw [hq] at h
  cases h
/-- a word that goes into a call -/
def gv_ok : Cond → Bool
  | .fieldLinkNest .. => true
  | .methodLinkNest .. => true
  | .arrayOver (.object _) => true
  | w => goodWord w
def gv_tbl : List Cond := lw_tbl.filter gv_ok
theorem lw_ok : ∀ w ∈ gv_tbl, gv_ok w = true := fun _ h => (List.mem_filter.mp h).2
theorem gv_in {w : Cond} (h : w ∈ lw_tbl) (hk : gv_ok w = true) : w ∈ gv_tbl := List.mem_filter.mpr ⟨h, hk⟩
def K (p : Program) (l : Launch) (e : Env) (R : Room) (s : State) (m : MethodId) (args : Array Value) (below : List Frame) (meth : Method) (c : Code) (D : va_G) (base nL : Nat) (Q : State → Prop) (V : gv_V) (cells slots : Nat) (lv : List (Nat × Value)) (pc : Nat) (st : List Value) : Prop :=
  ∀ (H : Heap) (locs : List Loc) (ls : Array Slot), gv_H D base V H → va_S (gv_A base) s.heap H locs → lv_has ls nL lv → W p l e R s m args below meth c H locs cells slots Q (F0 m pc ls st)
def gv_C (p : Program) (s : State) (m : MethodId) (args : Array Value) (c : Code) (cc : ByteArray) (nL : Nat) (own : String) (D : va_G) (tys : List (ClassId × FieldType)) (base : Nat) : Prop :=
  p.tables.exec = Jvm.exec ∧ c.code = cc ∧ c.maxLocals = nL ∧ s.vm.findClass own = some m.cls ∧ (∀ w ∈ gv_tbl, w.before args s = true) ∧ va_K D classes tys s ∧ base ≤ s.heap.size
section KL
variable {p : Program} {l : Launch} {e : Env} {R : Room} {s : State} {m : MethodId} {args : Array Value} {below : List Frame} {meth : Method} {c : Code} {D : va_G} {base nL : Nat} {Q : State → Prop} {V : gv_V} {cells slots : Nat} {lv : List (Nat × Value)}
variable {cc : ByteArray} {pc : Nat} {rest : List Value} {own : String} {tys : List (ClassId × FieldType)}
theorem k_sub {st : List Value} {lv' : List (Nat × Value)} (ks : List Nat) (h : lv_pick lv ks = lv') (k : K p l e R s m args below meth c D base nL Q V cells slots lv' pc st) : K p l e R s m args below meth c D base nL Q V cells slots lv pc st := fun H locs ls gh gs gl => k H locs ls gh gs (lv_sub gl ks h)
theorem k_pc {st st' : List Value} {pc' : Nat} (h : pc = pc') (h2 : st = st') (k : K p l e R s m args below meth c D base nL Q V cells slots lv pc' st') : K p l e R s m args below meth c D base nL Q V cells slots lv pc st := by subst h; subst h2; exact k
theorem k_wide {st : List Value} {k n : Nat} (h1 : cells ≤ k) (h2 : slots ≤ n) (kk : K p l e R s m args below meth c D base nL Q V k n lv pc st) : K p l e R s m args below meth c D base nL Q V cells slots lv pc st := fun H locs ls gh gs gl => W.widen h1 h2 (kk H locs ls gh gs gl)
theorem k_iconst (C : gv_C p s m args c cc nL own D tys base) {n : Int} {v : Int32} (hdg : decode cc pc = .ok (.iconst n, 1)) (hv : Int32.ofInt n = v) (k : K p l e R s m args below meth c D base nL Q V cells slots lv (pc + 1) (.int v :: rest)) : K p l e R s m args below meth c D base nL Q V cells slots lv pc (rest) := fun H locs ls gh gs gl => lv_iconst C.1 C.2.1 hdg hv (k  H locs ls gh gs gl)
theorem k_bipush (C : gv_C p s m args c cc nL own D tys base) {n : Int} {v : Int32} (hdg : decode cc pc = .ok (.bipush n, 2)) (hv : (Int8.ofInt n).toInt32 = v) (k : K p l e R s m args below meth c D base nL Q V cells slots lv (pc + 2) (.int v :: rest)) : K p l e R s m args below meth c D base nL Q V cells slots lv pc (rest) := fun H locs ls gh gs gl => lv_bipush C.1 C.2.1 hdg hv (k  H locs ls gh gs gl)
theorem k_sipush (C : gv_C p s m args c cc nL own D tys base) {n : Int} {v : Int32} (hdg : decode cc pc = .ok (.sipush n, 3)) (hv : (Int16.ofInt n).toInt32 = v) (k : K p l e R s m args below meth c D base nL Q V cells slots lv (pc + 3) (.int v :: rest)) : K p l e R s m args below meth c D base nL Q V cells slots lv pc (rest) := fun H locs ls gh gs gl => lv_sipush C.1 C.2.1 hdg hv (k  H locs ls gh gs gl)
theorem k_lconst (C : gv_C p s m args c cc nL own D tys base) {n : Fin 2} {v : Int64} (hdg : decode cc pc = .ok (.lconst n, 1)) (hv : Int64.ofNat (n : Nat) = v) (k : K p l e R s m args below meth c D base nL Q V cells slots lv (pc + 1) (.long v :: rest)) : K p l e R s m args below meth c D base nL Q V cells slots lv pc (rest) := fun H locs ls gh gs gl => lv_lconst C.1 C.2.1 hdg hv (k  H locs ls gh gs gl)
theorem k_iload_n (C : gv_C p s m args c cc nL own D tys base) {k : Fin 4} {i : Nat} {x : Int32} (hdg : decode cc pc = .ok (.iload_n k, 1)) (hi : (k : Nat) = i) (kp : Nat) (hl : lv[kp]? = some (i, .int x)) (k : K p l e R s m args below meth c D base nL Q V cells slots lv (pc + 1) (.int x :: rest)) : K p l e R s m args below meth c D base nL Q V cells slots lv pc (rest) := fun H locs ls gh gs gl => lv_iload_n C.1 C.2.1 hdg hi (lv_at gl kp hl) (k  H locs ls gh gs gl)
theorem k_iload (C : gv_C p s m args c cc nL own D tys base) {i : Nat} {x : Int32} (hdg : decode cc pc = .ok (.iload i, 2)) (kp : Nat) (hl : lv[kp]? = some (i, .int x)) (k : K p l e R s m args below meth c D base nL Q V cells slots lv (pc + 2) (.int x :: rest)) : K p l e R s m args below meth c D base nL Q V cells slots lv pc (rest) := fun H locs ls gh gs gl => lv_iload C.1 C.2.1 hdg (lv_at gl kp hl) (k  H locs ls gh gs gl)
theorem k_lload_n (C : gv_C p s m args c cc nL own D tys base) {k : Fin 4} {i : Nat} {x : Int64} (hdg : decode cc pc = .ok (.lload_n k, 1)) (hi : (k : Nat) = i) (kp : Nat) (hl : lv[kp]? = some (i, .long x)) (k : K p l e R s m args below meth c D base nL Q V cells slots lv (pc + 1) (.long x :: rest)) : K p l e R s m args below meth c D base nL Q V cells slots lv pc (rest) := fun H locs ls gh gs gl => lv_lload_n C.1 C.2.1 hdg hi (lv_at gl kp hl) (k  H locs ls gh gs gl)
theorem k_lload (C : gv_C p s m args c cc nL own D tys base) {i : Nat} {x : Int64} (hdg : decode cc pc = .ok (.lload i, 2)) (kp : Nat) (hl : lv[kp]? = some (i, .long x)) (k : K p l e R s m args below meth c D base nL Q V cells slots lv (pc + 2) (.long x :: rest)) : K p l e R s m args below meth c D base nL Q V cells slots lv pc (rest) := fun H locs ls gh gs gl => lv_lload C.1 C.2.1 hdg (lv_at gl kp hl) (k  H locs ls gh gs gl)
theorem k_aload_n (C : gv_C p s m args c cc nL own D tys base) {k : Fin 4} {i : Nat} {x : Nat} (hdg : decode cc pc = .ok (.aload_n k, 1)) (hi : (k : Nat) = i) (kp : Nat) (hl : lv[kp]? = some (i, .ref x)) (k : K p l e R s m args below meth c D base nL Q V cells slots lv (pc + 1) (.ref x :: rest)) : K p l e R s m args below meth c D base nL Q V cells slots lv pc (rest) := fun H locs ls gh gs gl => lv_aload_n C.1 C.2.1 hdg hi (lv_at gl kp hl) (k  H locs ls gh gs gl)
theorem k_aload (C : gv_C p s m args c cc nL own D tys base) {i : Nat} {x : Nat} (hdg : decode cc pc = .ok (.aload i, 2)) (kp : Nat) (hl : lv[kp]? = some (i, .ref x)) (k : K p l e R s m args below meth c D base nL Q V cells slots lv (pc + 2) (.ref x :: rest)) : K p l e R s m args below meth c D base nL Q V cells slots lv pc (rest) := fun H locs ls gh gs gl => lv_aload C.1 C.2.1 hdg (lv_at gl kp hl) (k  H locs ls gh gs gl)
theorem k_istore_n (C : gv_C p s m args c cc nL own D tys base) {k : Fin 4} {i : Nat} {x : Int32} {lv' : List (Nat × Value)} (hdg : decode cc pc = .ok (.istore_n k, 1)) (hi : (k : Nat) = i) (hn : i < nL) (hl : (i, Value.int x) :: lv.filter (fun q => !(q.1 == i) && !(q.1 + 1 == i && q.2.category == 2)) = lv') (kk : K p l e R s m args below meth c D base nL Q V cells slots lv' (pc + 1) rest) : K p l e R s m args below meth c D base nL Q V cells slots lv pc (.int x :: rest) := fun H locs ls gh gs gl => lv_istore_n C.1 C.2.1 hdg hi gl hn hl (fun l2 a0 => kk H locs l2 gh gs a0)
theorem k_istore (C : gv_C p s m args c cc nL own D tys base) {i : Nat} {x : Int32} {lv' : List (Nat × Value)} (hdg : decode cc pc = .ok (.istore i, 2)) (hn : i < nL) (hl : (i, Value.int x) :: lv.filter (fun q => !(q.1 == i) && !(q.1 + 1 == i && q.2.category == 2)) = lv') (kk : K p l e R s m args below meth c D base nL Q V cells slots lv' (pc + 2) rest) : K p l e R s m args below meth c D base nL Q V cells slots lv pc (.int x :: rest) := fun H locs ls gh gs gl => lv_istore C.1 C.2.1 hdg gl hn hl (fun l2 a0 => kk H locs l2 gh gs a0)
theorem k_lstore_n (C : gv_C p s m args c cc nL own D tys base) {k : Fin 4} {i : Nat} {x : Int64} {lv' : List (Nat × Value)} (hdg : decode cc pc = .ok (.lstore_n k, 1)) (hi : (k : Nat) = i) (hn : i + 1 < nL) (hl : (i, Value.long x) :: lv.filter (fun q => !(q.1 == i) && (!(q.1 == i + 1) && !(q.1 + 1 == i && q.2.category == 2))) = lv') (kk : K p l e R s m args below meth c D base nL Q V cells slots lv' (pc + 1) rest) : K p l e R s m args below meth c D base nL Q V cells slots lv pc (.long x :: rest) := fun H locs ls gh gs gl => lv_lstore_n C.1 C.2.1 hdg hi gl hn hl (fun l2 a0 => kk H locs l2 gh gs a0)
theorem k_lstore (C : gv_C p s m args c cc nL own D tys base) {i : Nat} {x : Int64} {lv' : List (Nat × Value)} (hdg : decode cc pc = .ok (.lstore i, 2)) (hn : i + 1 < nL) (hl : (i, Value.long x) :: lv.filter (fun q => !(q.1 == i) && (!(q.1 == i + 1) && !(q.1 + 1 == i && q.2.category == 2))) = lv') (kk : K p l e R s m args below meth c D base nL Q V cells slots lv' (pc + 2) rest) : K p l e R s m args below meth c D base nL Q V cells slots lv pc (.long x :: rest) := fun H locs ls gh gs gl => lv_lstore C.1 C.2.1 hdg gl hn hl (fun l2 a0 => kk H locs l2 gh gs a0)
theorem k_astore_n (C : gv_C p s m args c cc nL own D tys base) {k : Fin 4} {i : Nat} {x : Nat} {lv' : List (Nat × Value)} (hdg : decode cc pc = .ok (.astore_n k, 1)) (hi : (k : Nat) = i) (hn : i < nL) (hl : (i, Value.ref x) :: lv.filter (fun q => !(q.1 == i) && !(q.1 + 1 == i && q.2.category == 2)) = lv') (kk : K p l e R s m args below meth c D base nL Q V cells slots lv' (pc + 1) rest) : K p l e R s m args below meth c D base nL Q V cells slots lv pc (.ref x :: rest) := fun H locs ls gh gs gl => lv_astore_n C.1 C.2.1 hdg hi gl hn hl (fun l2 a0 => kk H locs l2 gh gs a0)
theorem k_astore (C : gv_C p s m args c cc nL own D tys base) {i : Nat} {x : Nat} {lv' : List (Nat × Value)} (hdg : decode cc pc = .ok (.astore i, 2)) (hn : i < nL) (hl : (i, Value.ref x) :: lv.filter (fun q => !(q.1 == i) && !(q.1 + 1 == i && q.2.category == 2)) = lv') (kk : K p l e R s m args below meth c D base nL Q V cells slots lv' (pc + 2) rest) : K p l e R s m args below meth c D base nL Q V cells slots lv pc (.ref x :: rest) := fun H locs ls gh gs gl => lv_astore C.1 C.2.1 hdg gl hn hl (fun l2 a0 => kk H locs l2 gh gs a0)
theorem k_iinc (C : gv_C p s m args c cc nL own D tys base) {i k : Nat} {n : Int} {x v : Int32} {lv' : List (Nat × Value)} (hdg : decode cc pc = .ok (.iinc i n, 3)) (hk : lv[k]? = some (i, .int x)) (hv : x + Int32.ofInt n = v) (hn : i < nL) (hl : (i, Value.int v) :: lv.filter (fun q => !(q.1 == i) && !(q.1 + 1 == i && q.2.category == 2)) = lv') (kk : K p l e R s m args below meth c D base nL Q V cells slots lv' (pc + 3) rest) : K p l e R s m args below meth c D base nL Q V cells slots lv pc rest := fun H locs ls gh gs gl => lv_iinc C.1 C.2.1 hdg gl hk hv hn hl (fun l2 a0 => kk H locs l2 gh gs a0)
theorem k_iadd (C : gv_C p s m args c cc nL own D tys base) {x y : Int32} (hdg : decode cc pc = .ok (.iadd, 1)) (k : K p l e R s m args below meth c D base nL Q V cells slots lv (pc + 1) (.int (x + y) :: rest)) : K p l e R s m args below meth c D base nL Q V cells slots lv pc (.int y :: .int x :: rest) := fun H locs ls gh gs gl => lv_iadd C.1 C.2.1 hdg (k  H locs ls gh gs gl)
theorem k_isub (C : gv_C p s m args c cc nL own D tys base) {x y : Int32} (hdg : decode cc pc = .ok (.isub, 1)) (k : K p l e R s m args below meth c D base nL Q V cells slots lv (pc + 1) (.int (x - y) :: rest)) : K p l e R s m args below meth c D base nL Q V cells slots lv pc (.int y :: .int x :: rest) := fun H locs ls gh gs gl => lv_isub C.1 C.2.1 hdg (k  H locs ls gh gs gl)
theorem k_imul (C : gv_C p s m args c cc nL own D tys base) {x y : Int32} (hdg : decode cc pc = .ok (.imul, 1)) (k : K p l e R s m args below meth c D base nL Q V cells slots lv (pc + 1) (.int (x * y) :: rest)) : K p l e R s m args below meth c D base nL Q V cells slots lv pc (.int y :: .int x :: rest) := fun H locs ls gh gs gl => lv_imul C.1 C.2.1 hdg (k  H locs ls gh gs gl)
theorem k_iand (C : gv_C p s m args c cc nL own D tys base) {x y : Int32} (hdg : decode cc pc = .ok (.iand, 1)) (k : K p l e R s m args below meth c D base nL Q V cells slots lv (pc + 1) (.int (x &&& y) :: rest)) : K p l e R s m args below meth c D base nL Q V cells slots lv pc (.int y :: .int x :: rest) := fun H locs ls gh gs gl => lv_iand C.1 C.2.1 hdg (k  H locs ls gh gs gl)
theorem k_ior (C : gv_C p s m args c cc nL own D tys base) {x y : Int32} (hdg : decode cc pc = .ok (.ior, 1)) (k : K p l e R s m args below meth c D base nL Q V cells slots lv (pc + 1) (.int (x ||| y) :: rest)) : K p l e R s m args below meth c D base nL Q V cells slots lv pc (.int y :: .int x :: rest) := fun H locs ls gh gs gl => lv_ior C.1 C.2.1 hdg (k  H locs ls gh gs gl)
theorem k_ixor (C : gv_C p s m args c cc nL own D tys base) {x y : Int32} (hdg : decode cc pc = .ok (.ixor, 1)) (k : K p l e R s m args below meth c D base nL Q V cells slots lv (pc + 1) (.int (x ^^^ y) :: rest)) : K p l e R s m args below meth c D base nL Q V cells slots lv pc (.int y :: .int x :: rest) := fun H locs ls gh gs gl => lv_ixor C.1 C.2.1 hdg (k  H locs ls gh gs gl)
theorem k_idiv (C : gv_C p s m args c cc nL own D tys base) {x y : Int32} (hdg : decode cc pc = .ok (.idiv, 1)) (hne : ¬ y = 0) (k : K p l e R s m args below meth c D base nL Q V cells slots lv (pc + 1) (.int (x / y) :: rest)) : K p l e R s m args below meth c D base nL Q V cells slots lv pc (.int y :: .int x :: rest) := fun H locs ls gh gs gl => lv_idiv C.1 C.2.1 hdg hne (k  H locs ls gh gs gl)
theorem k_irem (C : gv_C p s m args c cc nL own D tys base) {x y : Int32} (hdg : decode cc pc = .ok (.irem, 1)) (hne : ¬ y = 0) (k : K p l e R s m args below meth c D base nL Q V cells slots lv (pc + 1) (.int (x - x / y * y) :: rest)) : K p l e R s m args below meth c D base nL Q V cells slots lv pc (.int y :: .int x :: rest) := fun H locs ls gh gs gl => lv_irem C.1 C.2.1 hdg hne (k  H locs ls gh gs gl)
theorem k_ineg (C : gv_C p s m args c cc nL own D tys base) {x : Int32} (hdg : decode cc pc = .ok (.ineg, 1)) (k : K p l e R s m args below meth c D base nL Q V cells slots lv (pc + 1) (.int (-x) :: rest)) : K p l e R s m args below meth c D base nL Q V cells slots lv pc (.int x :: rest) := fun H locs ls gh gs gl => lv_ineg C.1 C.2.1 hdg (k  H locs ls gh gs gl)
theorem k_ladd (C : gv_C p s m args c cc nL own D tys base) {x y : Int64} (hdg : decode cc pc = .ok (.ladd, 1)) (k : K p l e R s m args below meth c D base nL Q V cells slots lv (pc + 1) (.long (x + y) :: rest)) : K p l e R s m args below meth c D base nL Q V cells slots lv pc (.long y :: .long x :: rest) := fun H locs ls gh gs gl => lv_ladd C.1 C.2.1 hdg (k  H locs ls gh gs gl)
theorem k_lsub (C : gv_C p s m args c cc nL own D tys base) {x y : Int64} (hdg : decode cc pc = .ok (.lsub, 1)) (k : K p l e R s m args below meth c D base nL Q V cells slots lv (pc + 1) (.long (x - y) :: rest)) : K p l e R s m args below meth c D base nL Q V cells slots lv pc (.long y :: .long x :: rest) := fun H locs ls gh gs gl => lv_lsub C.1 C.2.1 hdg (k  H locs ls gh gs gl)
theorem k_lmul (C : gv_C p s m args c cc nL own D tys base) {x y : Int64} (hdg : decode cc pc = .ok (.lmul, 1)) (k : K p l e R s m args below meth c D base nL Q V cells slots lv (pc + 1) (.long (x * y) :: rest)) : K p l e R s m args below meth c D base nL Q V cells slots lv pc (.long y :: .long x :: rest) := fun H locs ls gh gs gl => lv_lmul C.1 C.2.1 hdg (k  H locs ls gh gs gl)
theorem k_ldiv (C : gv_C p s m args c cc nL own D tys base) {x y : Int64} (hdg : decode cc pc = .ok (.ldiv, 1)) (hne : ¬ y = 0) (k : K p l e R s m args below meth c D base nL Q V cells slots lv (pc + 1) (.long (x / y) :: rest)) : K p l e R s m args below meth c D base nL Q V cells slots lv pc (.long y :: .long x :: rest) := fun H locs ls gh gs gl => lv_ldiv C.1 C.2.1 hdg hne (k  H locs ls gh gs gl)
theorem k_lneg (C : gv_C p s m args c cc nL own D tys base) {x : Int64} (hdg : decode cc pc = .ok (.lneg, 1)) (k : K p l e R s m args below meth c D base nL Q V cells slots lv (pc + 1) (.long (-x) :: rest)) : K p l e R s m args below meth c D base nL Q V cells slots lv pc (.long x :: rest) := fun H locs ls gh gs gl => lv_lneg C.1 C.2.1 hdg (k  H locs ls gh gs gl)
theorem k_ishl (C : gv_C p s m args c cc nL own D tys base) {x y : Int32} (hdg : decode cc pc = .ok (.ishl, 1)) (k : K p l e R s m args below meth c D base nL Q V cells slots lv (pc + 1) (.int (x <<< (y &&& 31)) :: rest)) : K p l e R s m args below meth c D base nL Q V cells slots lv pc (.int y :: .int x :: rest) := fun H locs ls gh gs gl => lv_ishl C.1 C.2.1 hdg (k  H locs ls gh gs gl)
theorem k_ishr (C : gv_C p s m args c cc nL own D tys base) {x y : Int32} (hdg : decode cc pc = .ok (.ishr, 1)) (k : K p l e R s m args below meth c D base nL Q V cells slots lv (pc + 1) (.int (x >>> (y &&& 31)) :: rest)) : K p l e R s m args below meth c D base nL Q V cells slots lv pc (.int y :: .int x :: rest) := fun H locs ls gh gs gl => lv_ishr C.1 C.2.1 hdg (k  H locs ls gh gs gl)
theorem k_iushr (C : gv_C p s m args c cc nL own D tys base) {x y v : Int32} (hdg : decode cc pc = .ok (.iushr, 1)) (hv : (x.toUInt32 >>> (y.toUInt32 &&& Int32.toUInt32 31)).toInt32 = v) (k : K p l e R s m args below meth c D base nL Q V cells slots lv (pc + 1) (.int v :: rest)) : K p l e R s m args below meth c D base nL Q V cells slots lv pc (.int y :: .int x :: rest) := fun H locs ls gh gs gl => lv_iushr C.1 C.2.1 hdg hv (k  H locs ls gh gs gl)
theorem k_lshl (C : gv_C p s m args c cc nL own D tys base) {x v : Int64} {y : Int32} (hdg : decode cc pc = .ok (.lshl, 1)) (hv : x <<< (y.toInt64 &&& 63) = v) (k : K p l e R s m args below meth c D base nL Q V cells slots lv (pc + 1) (.long v :: rest)) : K p l e R s m args below meth c D base nL Q V cells slots lv pc (.int y :: .long x :: rest) := fun H locs ls gh gs gl => lv_lshl C.1 C.2.1 hdg hv (k  H locs ls gh gs gl)
theorem k_lshr (C : gv_C p s m args c cc nL own D tys base) {x v : Int64} {y : Int32} (hdg : decode cc pc = .ok (.lshr, 1)) (hv : x >>> (y.toInt64 &&& 63) = v) (k : K p l e R s m args below meth c D base nL Q V cells slots lv (pc + 1) (.long v :: rest)) : K p l e R s m args below meth c D base nL Q V cells slots lv pc (.int y :: .long x :: rest) := fun H locs ls gh gs gl => lv_lshr C.1 C.2.1 hdg hv (k  H locs ls gh gs gl)
theorem k_i2l (C : gv_C p s m args c cc nL own D tys base) {x : Int32} {v : Int64} (hdg : decode cc pc = .ok (.i2l, 1)) (hv : x.toInt64 = v) (k : K p l e R s m args below meth c D base nL Q V cells slots lv (pc + 1) (.long v :: rest)) : K p l e R s m args below meth c D base nL Q V cells slots lv pc (.int x :: rest) := fun H locs ls gh gs gl => lv_i2l C.1 C.2.1 hdg hv (k  H locs ls gh gs gl)
theorem k_l2i (C : gv_C p s m args c cc nL own D tys base) {x : Int64} {v : Int32} (hdg : decode cc pc = .ok (.l2i, 1)) (hv : x.toInt32 = v) (k : K p l e R s m args below meth c D base nL Q V cells slots lv (pc + 1) (.int v :: rest)) : K p l e R s m args below meth c D base nL Q V cells slots lv pc (.long x :: rest) := fun H locs ls gh gs gl => lv_l2i C.1 C.2.1 hdg hv (k  H locs ls gh gs gl)
theorem k_dup (C : gv_C p s m args c cc nL own D tys base) {va : Value} (hdg : decode cc pc = .ok (.dup, 1)) (hva : va.category = 1) (k : K p l e R s m args below meth c D base nL Q V cells slots lv (pc + 1) (va :: va :: rest)) : K p l e R s m args below meth c D base nL Q V cells slots lv pc (va :: rest) := fun H locs ls gh gs gl => lv_dup C.1 C.2.1 hdg hva (k  H locs ls gh gs gl)
theorem k_pop (C : gv_C p s m args c cc nL own D tys base) {va : Value} (hdg : decode cc pc = .ok (.pop, 1)) (hva : va.category = 1) (k : K p l e R s m args below meth c D base nL Q V cells slots lv (pc + 1) (rest)) : K p l e R s m args below meth c D base nL Q V cells slots lv pc (va :: rest) := fun H locs ls gh gs gl => lv_pop C.1 C.2.1 hdg hva (k  H locs ls gh gs gl)
theorem k_dup_x1 (C : gv_C p s m args c cc nL own D tys base) {va vb : Value} (hdg : decode cc pc = .ok (.dup_x1, 1)) (hva : va.category = 1) (hvb : vb.category = 1) (k : K p l e R s m args below meth c D base nL Q V cells slots lv (pc + 1) (va :: vb :: va :: rest)) : K p l e R s m args below meth c D base nL Q V cells slots lv pc (va :: vb :: rest) := fun H locs ls gh gs gl => lv_dup_x1 C.1 C.2.1 hdg hva hvb (k  H locs ls gh gs gl)
theorem k_dup_x2 (C : gv_C p s m args c cc nL own D tys base) {va vb vd : Value} (hdg : decode cc pc = .ok (.dup_x2, 1)) (hva : va.category = 1) (hvb : vb.category = 1) (hvd : vd.category = 1) (k : K p l e R s m args below meth c D base nL Q V cells slots lv (pc + 1) (va :: vb :: vd :: va :: rest)) : K p l e R s m args below meth c D base nL Q V cells slots lv pc (va :: vb :: vd :: rest) := fun H locs ls gh gs gl => lv_dup_x2 C.1 C.2.1 hdg hva hvb hvd (k  H locs ls gh gs gl)
theorem k_dup2_11 (C : gv_C p s m args c cc nL own D tys base) {va vb : Value} (hdg : decode cc pc = .ok (.dup2, 1)) (hva : va.category = 1) (hvb : vb.category = 1) (k : K p l e R s m args below meth c D base nL Q V cells slots lv (pc + 1) (va :: vb :: va :: vb :: rest)) : K p l e R s m args below meth c D base nL Q V cells slots lv pc (va :: vb :: rest) := fun H locs ls gh gs gl => lv_dup2_11 C.1 C.2.1 hdg hva hvb (k  H locs ls gh gs gl)
theorem k_dup2_2 (C : gv_C p s m args c cc nL own D tys base) {va : Value} (hdg : decode cc pc = .ok (.dup2, 1)) (hva : va.category = 2) (k : K p l e R s m args below meth c D base nL Q V cells slots lv (pc + 1) (va :: va :: rest)) : K p l e R s m args below meth c D base nL Q V cells slots lv pc (va :: rest) := fun H locs ls gh gs gl => lv_dup2_2 C.1 C.2.1 hdg hva (k  H locs ls gh gs gl)
theorem k_if_eq (C : gv_C p s m args c cc nL own D tys base) {x : Int32} {off : Int} {tgt : Nat} (hdg : decode cc pc = .ok (.ifCond .eq off, 3)) (ht : (pc : Int) + off = (tgt : Int)) (kt : x = 0 → K p l e R s m args below meth c D base nL Q V cells slots lv tgt rest) (kf : ¬ x = 0 → K p l e R s m args below meth c D base nL Q V cells slots lv (pc + 3) rest) : K p l e R s m args below meth c D base nL Q V cells slots lv pc (.int x :: rest) := fun H locs ls gh gs gl => lv_if_eq C.1 C.2.1 hdg ht (fun a0 => kt a0 H locs ls gh gs gl) (fun a0 => kf a0 H locs ls gh gs gl)
theorem k_icmp_eq (C : gv_C p s m args c cc nL own D tys base) {x y : Int32} {off : Int} {tgt : Nat} (hdg : decode cc pc = .ok (.if_icmp .eq off, 3)) (ht : (pc : Int) + off = (tgt : Int)) (kt : x = y → K p l e R s m args below meth c D base nL Q V cells slots lv tgt rest) (kf : ¬ x = y → K p l e R s m args below meth c D base nL Q V cells slots lv (pc + 3) rest) : K p l e R s m args below meth c D base nL Q V cells slots lv pc (.int y :: .int x :: rest) := fun H locs ls gh gs gl => lv_icmp_eq C.1 C.2.1 hdg ht (fun a0 => kt a0 H locs ls gh gs gl) (fun a0 => kf a0 H locs ls gh gs gl)
theorem k_if_ne (C : gv_C p s m args c cc nL own D tys base) {x : Int32} {off : Int} {tgt : Nat} (hdg : decode cc pc = .ok (.ifCond .ne off, 3)) (ht : (pc : Int) + off = (tgt : Int)) (kt : ¬ x = 0 → K p l e R s m args below meth c D base nL Q V cells slots lv tgt rest) (kf : x = 0 → K p l e R s m args below meth c D base nL Q V cells slots lv (pc + 3) rest) : K p l e R s m args below meth c D base nL Q V cells slots lv pc (.int x :: rest) := fun H locs ls gh gs gl => lv_if_ne C.1 C.2.1 hdg ht (fun a0 => kt a0 H locs ls gh gs gl) (fun a0 => kf a0 H locs ls gh gs gl)
theorem k_icmp_ne (C : gv_C p s m args c cc nL own D tys base) {x y : Int32} {off : Int} {tgt : Nat} (hdg : decode cc pc = .ok (.if_icmp .ne off, 3)) (ht : (pc : Int) + off = (tgt : Int)) (kt : ¬ x = y → K p l e R s m args below meth c D base nL Q V cells slots lv tgt rest) (kf : x = y → K p l e R s m args below meth c D base nL Q V cells slots lv (pc + 3) rest) : K p l e R s m args below meth c D base nL Q V cells slots lv pc (.int y :: .int x :: rest) := fun H locs ls gh gs gl => lv_icmp_ne C.1 C.2.1 hdg ht (fun a0 => kt a0 H locs ls gh gs gl) (fun a0 => kf a0 H locs ls gh gs gl)
theorem k_if_lt (C : gv_C p s m args c cc nL own D tys base) {x : Int32} {off : Int} {tgt : Nat} (hdg : decode cc pc = .ok (.ifCond .lt off, 3)) (ht : (pc : Int) + off = (tgt : Int)) (kt : x < 0 → K p l e R s m args below meth c D base nL Q V cells slots lv tgt rest) (kf : ¬ x < 0 → K p l e R s m args below meth c D base nL Q V cells slots lv (pc + 3) rest) : K p l e R s m args below meth c D base nL Q V cells slots lv pc (.int x :: rest) := fun H locs ls gh gs gl => lv_if_lt C.1 C.2.1 hdg ht (fun a0 => kt a0 H locs ls gh gs gl) (fun a0 => kf a0 H locs ls gh gs gl)
theorem k_icmp_lt (C : gv_C p s m args c cc nL own D tys base) {x y : Int32} {off : Int} {tgt : Nat} (hdg : decode cc pc = .ok (.if_icmp .lt off, 3)) (ht : (pc : Int) + off = (tgt : Int)) (kt : x < y → K p l e R s m args below meth c D base nL Q V cells slots lv tgt rest) (kf : ¬ x < y → K p l e R s m args below meth c D base nL Q V cells slots lv (pc + 3) rest) : K p l e R s m args below meth c D base nL Q V cells slots lv pc (.int y :: .int x :: rest) := fun H locs ls gh gs gl => lv_icmp_lt C.1 C.2.1 hdg ht (fun a0 => kt a0 H locs ls gh gs gl) (fun a0 => kf a0 H locs ls gh gs gl)
theorem k_if_ge (C : gv_C p s m args c cc nL own D tys base) {x : Int32} {off : Int} {tgt : Nat} (hdg : decode cc pc = .ok (.ifCond .ge off, 3)) (ht : (pc : Int) + off = (tgt : Int)) (kt : 0 ≤ x → K p l e R s m args below meth c D base nL Q V cells slots lv tgt rest) (kf : ¬ 0 ≤ x → K p l e R s m args below meth c D base nL Q V cells slots lv (pc + 3) rest) : K p l e R s m args below meth c D base nL Q V cells slots lv pc (.int x :: rest) := fun H locs ls gh gs gl => lv_if_ge C.1 C.2.1 hdg ht (fun a0 => kt a0 H locs ls gh gs gl) (fun a0 => kf a0 H locs ls gh gs gl)
theorem k_icmp_ge (C : gv_C p s m args c cc nL own D tys base) {x y : Int32} {off : Int} {tgt : Nat} (hdg : decode cc pc = .ok (.if_icmp .ge off, 3)) (ht : (pc : Int) + off = (tgt : Int)) (kt : y ≤ x → K p l e R s m args below meth c D base nL Q V cells slots lv tgt rest) (kf : ¬ y ≤ x → K p l e R s m args below meth c D base nL Q V cells slots lv (pc + 3) rest) : K p l e R s m args below meth c D base nL Q V cells slots lv pc (.int y :: .int x :: rest) := fun H locs ls gh gs gl => lv_icmp_ge C.1 C.2.1 hdg ht (fun a0 => kt a0 H locs ls gh gs gl) (fun a0 => kf a0 H locs ls gh gs gl)
theorem k_if_gt (C : gv_C p s m args c cc nL own D tys base) {x : Int32} {off : Int} {tgt : Nat} (hdg : decode cc pc = .ok (.ifCond .gt off, 3)) (ht : (pc : Int) + off = (tgt : Int)) (kt : 0 < x → K p l e R s m args below meth c D base nL Q V cells slots lv tgt rest) (kf : ¬ 0 < x → K p l e R s m args below meth c D base nL Q V cells slots lv (pc + 3) rest) : K p l e R s m args below meth c D base nL Q V cells slots lv pc (.int x :: rest) := fun H locs ls gh gs gl => lv_if_gt C.1 C.2.1 hdg ht (fun a0 => kt a0 H locs ls gh gs gl) (fun a0 => kf a0 H locs ls gh gs gl)
theorem k_icmp_gt (C : gv_C p s m args c cc nL own D tys base) {x y : Int32} {off : Int} {tgt : Nat} (hdg : decode cc pc = .ok (.if_icmp .gt off, 3)) (ht : (pc : Int) + off = (tgt : Int)) (kt : y < x → K p l e R s m args below meth c D base nL Q V cells slots lv tgt rest) (kf : ¬ y < x → K p l e R s m args below meth c D base nL Q V cells slots lv (pc + 3) rest) : K p l e R s m args below meth c D base nL Q V cells slots lv pc (.int y :: .int x :: rest) := fun H locs ls gh gs gl => lv_icmp_gt C.1 C.2.1 hdg ht (fun a0 => kt a0 H locs ls gh gs gl) (fun a0 => kf a0 H locs ls gh gs gl)
theorem k_if_le (C : gv_C p s m args c cc nL own D tys base) {x : Int32} {off : Int} {tgt : Nat} (hdg : decode cc pc = .ok (.ifCond .le off, 3)) (ht : (pc : Int) + off = (tgt : Int)) (kt : x ≤ 0 → K p l e R s m args below meth c D base nL Q V cells slots lv tgt rest) (kf : ¬ x ≤ 0 → K p l e R s m args below meth c D base nL Q V cells slots lv (pc + 3) rest) : K p l e R s m args below meth c D base nL Q V cells slots lv pc (.int x :: rest) := fun H locs ls gh gs gl => lv_if_le C.1 C.2.1 hdg ht (fun a0 => kt a0 H locs ls gh gs gl) (fun a0 => kf a0 H locs ls gh gs gl)
theorem k_icmp_le (C : gv_C p s m args c cc nL own D tys base) {x y : Int32} {off : Int} {tgt : Nat} (hdg : decode cc pc = .ok (.if_icmp .le off, 3)) (ht : (pc : Int) + off = (tgt : Int)) (kt : x ≤ y → K p l e R s m args below meth c D base nL Q V cells slots lv tgt rest) (kf : ¬ x ≤ y → K p l e R s m args below meth c D base nL Q V cells slots lv (pc + 3) rest) : K p l e R s m args below meth c D base nL Q V cells slots lv pc (.int y :: .int x :: rest) := fun H locs ls gh gs gl => lv_icmp_le C.1 C.2.1 hdg ht (fun a0 => kt a0 H locs ls gh gs gl) (fun a0 => kf a0 H locs ls gh gs gl)
theorem k_goto (C : gv_C p s m args c cc nL own D tys base) {off : Int} {tgt : Nat} (hdg : decode cc pc = .ok (.goto off, 3)) (ht : (pc : Int) + off = (tgt : Int)) (k : K p l e R s m args below meth c D base nL Q V cells slots lv tgt rest) : K p l e R s m args below meth c D base nL Q V cells slots lv pc rest := fun H locs ls gh gs gl => lv_goto C.1 C.2.1 hdg ht (k  H locs ls gh gs gl)
theorem k_topi {x : Int32} (k : ∀ y : Int32, y = x → K p l e R s m args below meth c D base nL Q V cells slots lv pc (.int y :: rest)) : K p l e R s m args below meth c D base nL Q V cells slots lv pc (.int x :: rest) := fun H locs ls gh gs gl => lv_topi (fun y a0 => k y a0 H locs ls gh gs gl)
theorem k_topl {x : Int64} (k : ∀ y : Int64, y = x → K p l e R s m args below meth c D base nL Q V cells slots lv pc (.long y :: rest)) : K p l e R s m args below meth c D base nL Q V cells slots lv pc (.long x :: rest) := fun H locs ls gh gs gl => lv_topl (fun y a0 => k y a0 H locs ls gh gs gl)
theorem k_ldc (C : gv_C p s m args c cc nL own D tys base) {index : Nat} {v : Int32} (hconst : Jvm.Cond.constant own index v ∈ gv_tbl) (hdg : decode cc pc = .ok (.ldc index, 2)) (k : K p l e R s m args below meth c D base nL Q V cells slots lv (pc + 2) (.int v :: rest)) : K p l e R s m args below meth c D base nL Q V cells slots lv pc rest := fun H locs ls gh gs gl => lv_ldc C.1 C.2.1 C.2.2.2.1 (C.2.2.2.2.1 _ hconst) hdg (k  H locs ls gh gs gl)
theorem k_ldc2 (C : gv_C p s m args c cc nL own D tys base) {index : Nat} {v : Int64} (hconst : Jvm.Cond.constantLong own index v ∈ gv_tbl) (hdg : decode cc pc = .ok (.ldc2_w index, 3)) (k : K p l e R s m args below meth c D base nL Q V cells slots lv (pc + 3) (.long v :: rest)) : K p l e R s m args below meth c D base nL Q V cells slots lv pc rest := fun H locs ls gh gs gl => lv_ldc2 C.1 C.2.1 C.2.2.2.1 (C.2.2.2.2.1 _ hconst) hdg (k  H locs ls gh gs gl)
theorem k_lookup (C : gv_C p s m args c cc nL own D tys base) {dflt : Int} {ps : Array (Int × Int)} {len : Nat} {x : Int32} {off : Int} {tgt : Nat} (hdg : decode cc pc = .ok (.lookupswitch dflt ps, len)) (hp : (ps.toList.zip (ps.toList.drop 1)).all (fun (a, next) => a.1 < next.1) = true) (ho : Op.lookupswitch.offset ps.toList dflt x.toInt = off) (ht : (pc : Int) + off = (tgt : Int)) (k : K p l e R s m args below meth c D base nL Q V cells slots lv tgt rest) : K p l e R s m args below meth c D base nL Q V cells slots lv pc (.int x :: rest) := fun H locs ls gh gs gl => lv_lookup C.1 C.2.1 hdg hp ho ht (k  H locs ls gh gs gl)
theorem k_tableOut (C : gv_C p s m args c cc nL own D tys base) {dflt lo hi : Int} {offs : Array Int} {len : Nat} {x : Int32} {tgt : Nat} (hdg : decode cc pc = .ok (.tableswitch dflt lo hi offs, len)) (h : x.toInt < lo ∨ hi < x.toInt) (ht : (pc : Int) + dflt = (tgt : Int)) (k : K p l e R s m args below meth c D base nL Q V cells slots lv tgt rest) : K p l e R s m args below meth c D base nL Q V cells slots lv pc (.int x :: rest) := fun H locs ls gh gs gl => lv_tableOut C.1 C.2.1 hdg h ht (k  H locs ls gh gs gl)
theorem k_tableIn (C : gv_C p s m args c cc nL own D tys base) {dflt lo hi : Int} {offs : Array Int} {len : Nat} {x : Int32} {off : Int} {tgt : Nat} (hdg : decode cc pc = .ok (.tableswitch dflt lo hi offs, len)) (h1 : ¬ x.toInt < lo) (h2 : ¬ hi < x.toInt) (ho : offs[(x.toInt - lo).toNat]? = some off) (ht : (pc : Int) + off = (tgt : Int)) (k : K p l e R s m args below meth c D base nL Q V cells slots lv tgt rest) : K p l e R s m args below meth c D base nL Q V cells slots lv pc (.int x :: rest) := fun H locs ls gh gs gl => lv_tableIn C.1 C.2.1 hdg h1 h2 ho ht (k  H locs ls gh gs gl)
theorem k_ifnonnull (C : gv_C p s m args c cc nL own D tys base) {x : Nat} {off : Int} {tgt : Nat} (hdg : decode cc pc = .ok (.ifnonnull off, 3)) (ht : (pc : Int) + off = (tgt : Int)) (k : K p l e R s m args below meth c D base nL Q V cells slots lv tgt rest) : K p l e R s m args below meth c D base nL Q V cells slots lv pc (.ref x :: rest) := fun H locs ls gh gs gl => lv_ifnonnull C.1 C.2.1 hdg ht (k  H locs ls gh gs gl)
theorem k_ifnull (C : gv_C p s m args c cc nL own D tys base) {x : Nat} {off : Int} (hdg : decode cc pc = .ok (.ifnull off, 3)) (k : K p l e R s m args below meth c D base nL Q V cells slots lv (pc + 3) rest) : K p l e R s m args below meth c D base nL Q V cells slots lv pc (.ref x :: rest) := fun H locs ls gh gs gl => lv_ifnull C.1 C.2.1 hdg (k  H locs ls gh gs gl)
theorem k_null (C : gv_C p s m args c cc nL own D tys base) (hdg : decode cc pc = .ok (.aconst_null, 1)) (k : K p l e R s m args below meth c D base nL Q V cells slots lv (pc + 1) (.null :: rest)) : K p l e R s m args below meth c D base nL Q V cells slots lv pc rest := fun H locs ls gh gs gl => lv_null C.1 C.2.1 hdg (k  H locs ls gh gs gl)
theorem k_ifnullN (C : gv_C p s m args c cc nL own D tys base) {off : Int} {tgt : Nat} (hdg : decode cc pc = .ok (.ifnull off, 3)) (ht : (pc : Int) + off = (tgt : Int)) (k : K p l e R s m args below meth c D base nL Q V cells slots lv tgt rest) : K p l e R s m args below meth c D base nL Q V cells slots lv pc (.null :: rest) := fun H locs ls gh gs gl => lv_ifnullN C.1 C.2.1 hdg ht (k  H locs ls gh gs gl)
theorem k_ifnonnullN (C : gv_C p s m args c cc nL own D tys base) {off : Int} (hdg : decode cc pc = .ok (.ifnonnull off, 3)) (k : K p l e R s m args below meth c D base nL Q V cells slots lv (pc + 3) rest) : K p l e R s m args below meth c D base nL Q V cells slots lv pc (.null :: rest) := fun H locs ls gh gs gl => lv_ifnonnullN C.1 C.2.1 hdg (k  H locs ls gh gs gl)
theorem k_aload_nN (C : gv_C p s m args c cc nL own D tys base) {k : Fin 4} {i : Nat} (hdg : decode cc pc = .ok (.aload_n k, 1)) (hi : (k : Nat) = i) (kp : Nat) (hl : lv[kp]? = some (i, .null)) (k : K p l e R s m args below meth c D base nL Q V cells slots lv (pc + 1) (.null :: rest)) : K p l e R s m args below meth c D base nL Q V cells slots lv pc (rest) := fun H locs ls gh gs gl => lv_aload_nN C.1 C.2.1 hdg hi (lv_at gl kp hl) (k  H locs ls gh gs gl)
theorem k_aloadN (C : gv_C p s m args c cc nL own D tys base) {i : Nat} (hdg : decode cc pc = .ok (.aload i, 2)) (kp : Nat) (hl : lv[kp]? = some (i, .null)) (k : K p l e R s m args below meth c D base nL Q V cells slots lv (pc + 2) (.null :: rest)) : K p l e R s m args below meth c D base nL Q V cells slots lv pc (rest) := fun H locs ls gh gs gl => lv_aloadN C.1 C.2.1 hdg (lv_at gl kp hl) (k  H locs ls gh gs gl)
theorem k_astore_nN (C : gv_C p s m args c cc nL own D tys base) {k : Fin 4} {i : Nat} {lv' : List (Nat × Value)} (hdg : decode cc pc = .ok (.astore_n k, 1)) (hi : (k : Nat) = i) (hn : i < nL) (hl : (i, Value.null) :: lv.filter (fun q => !(q.1 == i) && !(q.1 + 1 == i && q.2.category == 2)) = lv') (kk : K p l e R s m args below meth c D base nL Q V cells slots lv' (pc + 1) rest) : K p l e R s m args below meth c D base nL Q V cells slots lv pc (.null :: rest) := fun H locs ls gh gs gl => lv_astore_nN C.1 C.2.1 hdg hi gl hn hl (fun l2 a0 => kk H locs l2 gh gs a0)
theorem k_astoreN (C : gv_C p s m args c cc nL own D tys base) {i : Nat} {lv' : List (Nat × Value)} (hdg : decode cc pc = .ok (.astore i, 2)) (hn : i < nL) (hl : (i, Value.null) :: lv.filter (fun q => !(q.1 == i) && !(q.1 + 1 == i && q.2.category == 2)) = lv') (kk : K p l e R s m args below meth c D base nL Q V cells slots lv' (pc + 2) rest) : K p l e R s m args below meth c D base nL Q V cells slots lv pc (.null :: rest) := fun H locs ls gh gs gl => lv_astoreN C.1 C.2.1 hdg gl hn hl (fun l2 a0 => kk H locs l2 gh gs a0)
theorem k_val {x y : Int32} (h : x = y) (k : K p l e R s m args below meth c D base nL Q V cells slots lv pc (.int y :: rest)) : K p l e R s m args below meth c D base nL Q V cells slots lv pc (.int x :: rest) := h ▸ k
theorem k_valr {x y : Value} (h : x = y) (k : K p l e R s m args below meth c D base nL Q V cells slots lv pc (y :: rest)) : K p l e R s m args below meth c D base nL Q V cells slots lv pc (x :: rest) := h ▸ k
theorem k_view {st : List Value} {V1 : gv_V} (h : V = V1) (k : K p l e R s m args below meth c D base nL Q V1 cells slots lv pc st) : K p l e R s m args below meth c D base nL Q V cells slots lv pc st := h ▸ k
theorem gv_uu {a : Nat} {x y : va_E} : gv_up (gv_up V a x) a y = gv_up V a y := by
  funext q
  by_cases h : q = a
  · subst h; rw [gv_up_s, gv_up_s]
  · rw [gv_up_n h, gv_up_n h, gv_up_n h]
theorem gv_P1 {H : Heap} {a : Nat} {x : va_E} (gh : gv_H D base V H) (h : V a = some x) : va_P D classes [(a, x)] H := by
  intro k q hk
  have hz : k < 1 := (List.getElem?_eq_some_iff.mp hk).1
  rw [show k = 0 by omega] at hk
  cases hk
  exact (gh a x h).1
theorem gv_lt {H : Heap} {a : Nat} {x : va_E} (gh : gv_H D base V H) (h : V a = some x) : a < H.size := (gh a x h).1.lt
/-- the view as a list of cells -/
theorem gv_list0 (V : gv_V) : ∀ n : Nat, ∃ ws : va_W, (∀ (k : Nat) (q : Nat × va_E), ws[k]? = some q → q.1 < n ∧ V q.1 = some q.2) ∧ (∀ (i j : Nat) (p q : Nat × va_E), ws[i]? = some p → ws[j]? = some q → p.1 = q.1 → i = j) ∧ ∀ (q : Nat) (x : va_E), q < n → V q = some x → ∃ i : Nat, ws[i]? = some (q, x)
  | 0 => ⟨[], fun k q h => by simp at h, fun i j p q h => by simp at h, fun q x h => absurd h (Nat.not_lt_zero _)⟩
  | n + 1 => by
    obtain ⟨ws, h1, h2, h3⟩ := gv_list0 V n
    cases hV : V n with
    | none =>
      refine ⟨ws, fun k q hk => ⟨Nat.lt_succ_of_lt (h1 k q hk).1, (h1 k q hk).2⟩, h2, fun q x hq hx => ?_⟩
      rcases Nat.lt_or_ge q n with h | h
      · exact h3 q x h hx
      · have : q = n := by omega
        subst this
        rw [hV] at hx; cases hx
    | some y =>
      have key : ∀ (k : Nat) (q : Nat × va_E), (ws ++ [(n, y)])[k]? = some q → (ws[k]? = some q ∧ q.1 < n) ∨ (k = ws.length ∧ q = (n, y)) := by
        intro k q hk
        by_cases hl : k < ws.length
        · rw [List.getElem?_append_left hl] at hk
          exact Or.inl ⟨hk, (h1 k q hk).1⟩
        · rw [List.getElem?_append_right (by omega)] at hk
          have hz : k - ws.length < 1 := (List.getElem?_eq_some_iff.mp hk).1
          have hk0 : k = ws.length := by omega
          subst hk0
          rw [Nat.sub_self] at hk
          cases hk
          exact Or.inr ⟨rfl, rfl⟩
      refine ⟨ws ++ [(n, y)], fun k q hk => ?_, fun i j x z hi hj hxy => ?_, fun q x hq hx => ?_⟩
      · rcases key k q hk with ⟨a, b⟩ | ⟨-, rfl⟩
        · exact ⟨Nat.lt_succ_of_lt b, (h1 k q a).2⟩
        · exact ⟨Nat.lt_succ_self _, hV⟩
      · rcases key i x hi with ⟨a1, l1⟩ | ⟨a1, rfl⟩ <;> rcases key j z hj with ⟨a2, l2⟩ | ⟨a2, rfl⟩
        · exact h2 i j x z a1 a2 hxy
        · simp at hxy; omega
        · simp at hxy; omega
        · omega
      · rcases Nat.lt_or_ge q n with h | h
        · obtain ⟨i, hi⟩ := h3 q x h hx
          exact ⟨i, by rw [List.getElem?_append_left (List.getElem?_eq_some_iff.mp hi).1]; exact hi⟩
        · have : q = n := by omega
          subst this
          rw [hV] at hx; cases hx
          exact ⟨ws.length, by simp⟩
theorem gv_list {H : Heap} (gh : gv_H D base V H) : ∃ ws : va_W, va_P D classes ws H ∧ va_D (gv_A base) ws ∧ ∀ (q : Nat) (x : va_E), V q = some x → ∃ i : Nat, ws[i]? = some (q, x) := by
  obtain ⟨ws, h1, h2, h3⟩ := gv_list0 V H.size
  exact ⟨ws, fun k q hk => (gh q.1 q.2 (h1 k q hk).2).1, ⟨h2, fun k q hk => (gh q.1 q.2 (h1 k q hk).2).2⟩, fun q x hx => h3 q x (gv_lt gh hx) hx⟩
theorem gv_of_set {H1 : Heap} {ws : va_W} {i a : Nat} {x0 x' : va_E} (hD : va_D (gv_A base) ws) (hw : ∀ (q : Nat) (x : va_E), V q = some x → ∃ i : Nat, ws[i]? = some (q, x)) (hi : ws[i]? = some (a, x0)) (hP : va_P D classes (ws.set i (a, x')) H1) : gv_H D base (gv_up V a x') H1 := by
  have hl := (List.getElem?_eq_some_iff.mp hi).1
  intro q y hy
  by_cases hq : q = a
  · subst hq
    rw [gv_up_s] at hy
    cases hy
    exact ⟨hP i _ (List.getElem?_set_self hl), hD.2 i _ hi⟩
  · rw [gv_up_n hq] at hy
    obtain ⟨j, hj⟩ := hw q y hy
    have hne : i ≠ j := fun h => by
      subst h
      rw [hi] at hj
      cases hj
      exact hq rfl
    exact ⟨hP j (q, y) (by rw [List.getElem?_set_ne hne]; exact hj), hD.2 j _ hj⟩
theorem gv_of_app {H1 : Heap} {ws : va_W} {a : Nat} {x' : va_E} (hw : ∀ (q : Nat) (x : va_E), V q = some x → ∃ i : Nat, ws[i]? = some (q, x)) (hP : va_P D classes (ws ++ [(a, x')]) H1) (hD : va_D (gv_A base) (ws ++ [(a, x')])) : V a = none ∧ gv_H D base (gv_up V a x') H1 := by
  have hlast : (ws ++ [(a, x')])[ws.length]? = some (a, x') := by simp
  refine ⟨?_, fun q y hy => ?_⟩
  · cases h : V a with
    | none => rfl
    | some y =>
      obtain ⟨j, hj⟩ := hw a y h
      have hjl := (List.getElem?_eq_some_iff.mp hj).1
      have := hD.1 j ws.length (a, y) (a, x') (by rw [List.getElem?_append_left hjl]; exact hj) hlast rfl
      omega
  · by_cases hq : q = a
    · subst hq
      rw [gv_up_s] at hy
      cases hy
      exact ⟨hP _ _ hlast, hD.2 _ _ hlast⟩
    · rw [gv_up_n hq] at hy
      obtain ⟨j, hj⟩ := hw q y hy
      have hjl := (List.getElem?_eq_some_iff.mp hj).1
      have h2 : (ws ++ [(a, x')])[j]? = some (q, y) := by rw [List.getElem?_append_left hjl]; exact hj
      exact ⟨hP j _ h2, hD.2 j _ h2⟩
/-- where a class's field lies: what getfield and putfield at a place of a class's pool speak of -/
def gv_F (own : String) (index ci k : Nat) : Prop := ∃ (C : String) (T : u_T) (N : Nat), classes[ci]? = some (C, T, N) ∧ (∀ w ∈ u_ws C T N, w ∈ gv_tbl) ∧ k < N ∧ (Cond.fieldLink own index (T k).1 (T k).2.1 (T k).2.2.1 ∈ gv_tbl ∨ ∃ host : String, Cond.fieldLinkNest own index (T k).1 (T k).2.1 (T k).2.2.1 host ∈ gv_tbl)
theorem k_get (C : gv_C p s m args c cc nL own D tys base) {index ci k a : Nat} {fs : List Value} {v : Value} (hF : gv_F own index ci k) (hV : V a = some (.inr (ci, fs))) (hv : fs[k]? = some v) (hdg : decode cc pc = .ok (.getfield index, 3))
    (kk : K p l e R s m args below meth c D base nL Q V cells slots lv (pc + 3) (v :: rest)) : K p l e R s m args below meth c D base nL Q V cells slots lv pc (.ref a :: rest) := by
  obtain ⟨hx, hb, hml, hown, hts, hK, -⟩ := C
  obtain ⟨Cn, T, N, hc, hin, hk, hl⟩ := hF
  intro H locs ls gh gs gl
  rcases hl with hl | ⟨host, hl⟩
  · exact va_get hx hb hts hin hown hK (gv_P1 gh hV) 0 rfl hc k hk (hts _ hl) (fun _ h => h) hv hdg (kk H locs ls gh gs gl)
  · exact va_getN hx hb hts hin hown hK (gv_P1 gh hV) 0 rfl hc k hk (hts _ hl) (fun _ h => h) hv hdg (kk H locs ls gh gs gl)
/-- what a put needs besides -/
def gv_PF (ci k : Nat) (ty : FieldType) (fin : Bool) : Prop := ∃ (C : String) (T : u_T) (N : Nat) (ty0 : Nat → FieldType), classes[ci]? = some (C, T, N) ∧ (∀ k, k < N → parseFieldDescriptor (T k).2.2.1 = some (ty0 k)) ∧ (∀ a, a < N → ∀ b, b < N → a ≠ b → (T a).2.1 ≠ (T b).2.1) ∧ (T k).2.2.2 = fin ∧ parseFieldDescriptor (T k).2.2.1 = some ty ∧ (T k).1 = C
theorem k_put (C : gv_C p s m args c cc nL own D tys base) {index ci k a : Nat} {fs fs' : List Value} {v : Value} {ty : FieldType} (hF : gv_F own index ci k) (hPF : gv_PF ci k ty false) (hV : V a = some (.inr (ci, fs))) (hn : narrow ty v = v) (hfit : fits ty v = true) (hl : k < fs.length) (hfs : fs.set k v = fs') (hdg : decode cc pc = .ok (.putfield index, 3))
    (kk : K p l e R s m args below meth c D base nL Q (gv_up V a (.inr (ci, fs'))) cells slots lv (pc + 3) rest) : K p l e R s m args below meth c D base nL Q V cells slots lv pc (v :: .ref a :: rest) := by
  obtain ⟨hx, hb, hml, hown, hts, hK, -⟩ := C
  obtain ⟨Cn, T, N, hc, hin, hk, hl2⟩ := hF
  obtain ⟨Cn', T', N', ty0, hc', hty, hnm, hfin, hd, -⟩ := hPF
  cases hc.symm.trans hc'
  subst hfs
  intro H locs ls gh gs gl
  obtain ⟨ws, hP, hD, hw⟩ := gv_list gh
  obtain ⟨i, hi⟩ := hw _ _ hV
  rcases hl2 with hl2 | ⟨host, hl2⟩
  · exact va_put hx hb hts hin ty0 hty hnm hown hK hP hD gs i hi hc k hk (hts _ hl2) (fun _ h => h) hfin hd hn hfit hl hdg (fun H1 locs1 hP1 _ hS1 => kk H1 locs1 ls (gv_of_set hD hw hi hP1) hS1 gl)
  · exact va_putN hx hb hts hin ty0 hty hnm hown hK hP hD gs i hi hc k hk (hts _ hl2) (fun _ h => h) hfin hd hn hfit hl hdg (fun H1 locs1 hP1 _ hS1 => kk H1 locs1 ls (gv_of_set hD hw hi hP1) hS1 gl)
theorem k_putF (C : gv_C p s m args c cc nL own D tys base) (hinit : meth.name = "<init>") {index ci k a : Nat} {fs fs' : List Value} {v : Value} {ty : FieldType} (hF : ∃ (T : u_T) (N : Nat), classes[ci]? = some (own, T, N) ∧ (∀ w ∈ u_ws own T N, w ∈ gv_tbl) ∧ k < N ∧ Cond.fieldLink own index (T k).1 (T k).2.1 (T k).2.2.1 ∈ gv_tbl) (hPF : gv_PF ci k ty true) (hV : V a = some (.inr (ci, fs))) (hn : narrow ty v = v) (hfit : fits ty v = true) (hl : k < fs.length) (hfs : fs.set k v = fs') (hdg : decode cc pc = .ok (.putfield index, 3))
    (kk : K p l e R s m args below meth c D base nL Q (gv_up V a (.inr (ci, fs'))) cells slots lv (pc + 3) rest) : K p l e R s m args below meth c D base nL Q V cells slots lv pc (v :: .ref a :: rest) := by
  obtain ⟨hx, hb, hml, hown, hts, hK, -⟩ := C
  obtain ⟨T, N, hc, hin, hk, hl2⟩ := hF
  obtain ⟨Cn', T', N', ty0, hc', hty, hnm, hfin, hd, hdecl⟩ := hPF
  cases hc.symm.trans hc'
  subst hfs
  intro H locs ls gh gs gl
  obtain ⟨ws, hP, hD, hw⟩ := gv_list gh
  obtain ⟨i, hi⟩ := hw _ _ hV
  exact va_putF hx hb hts hin ty0 hty hnm hown hK hP hD gs i hi hc k hk (hts _ hl2) (fun _ h => h) hfin hinit hdecl hd hn hfit hl hdg (fun H1 locs1 hP1 _ hS1 => kk H1 locs1 ls (gv_of_set hD hw hi hP1) hS1 gl)
/-! arrays: of ints (class id ci0 = the place t0 in tys), of references -/
theorem k_iald (C : gv_C p s m args c cc nL own D tys base) (t0 : Nat) {cA : ClassId} {a n : Nat} {f : Nat → Int32} {i v : Int32} (hV : V a = some (.inl (cA, n, .inl f))) (ht : tys[t0]? = some (cA, .int)) (hin : vp_in i n) (hv : f i.toNatClampNeg = v) (hdg : decode cc pc = .ok (.iaload, 1))
    (kk : K p l e R s m args below meth c D base nL Q V cells slots lv (pc + 1) (.int v :: rest)) : K p l e R s m args below meth c D base nL Q V cells slots lv pc (.int i :: .ref a :: rest) := by
  subst hv
  exact fun H locs ls gh gs gl => va_iald C.1 C.2.1 C.2.2.2.2.2.1 (gv_P1 gh hV) 0 t0 rfl ht hin hdg (kk H locs ls gh gs gl)
theorem k_iast (C : gv_C p s m args c cc nL own D tys base) (t0 : Nat) {cA : ClassId} {a n : Nat} {f f' : Nat → Int32} {i x : Int32} (hV : V a = some (.inl (cA, n, .inl f))) (ht : tys[t0]? = some (cA, .int)) (hin : vp_in i n) (hf : upd f i.toNatClampNeg x = f') (hdg : decode cc pc = .ok (.iastore, 1))
    (kk : K p l e R s m args below meth c D base nL Q (gv_up V a (.inl (cA, n, .inl f'))) cells slots lv (pc + 1) rest) : K p l e R s m args below meth c D base nL Q V cells slots lv pc (.int x :: .int i :: .ref a :: rest) := by
  subst hf
  intro H locs ls gh gs gl
  obtain ⟨ws, hP, hD, hw⟩ := gv_list gh
  obtain ⟨j, hj⟩ := hw _ _ hV
  exact va_iast C.1 C.2.1 C.2.2.2.2.2.1 hP hD gs j t0 hj ht hin hdg (fun H1 locs1 hP1 _ hS1 => kk H1 locs1 ls (gv_of_set hD hw hj hP1) hS1 gl)
theorem k_aald (C : gv_C p s m args c cc nL own D tys base) (t0 : Nat) {cA : ClassId} {Cn : String} {a n : Nat} {f : Nat → Option Nat} {i : Int32} {v : Value} (hV : V a = some (.inl (cA, n, .inr (.inr (.inr (.inr f)))))) (ht : tys[t0]? = some (cA, .object Cn)) (hin : vp_in i n) (hv : va_rf (f i.toNatClampNeg) = v) (hdg : decode cc pc = .ok (.aaload, 1))
    (kk : K p l e R s m args below meth c D base nL Q V cells slots lv (pc + 1) (v :: rest)) : K p l e R s m args below meth c D base nL Q V cells slots lv pc (.int i :: .ref a :: rest) := by
  subst hv
  exact fun H locs ls gh gs gl => va_aldq C.1 C.2.1 C.2.2.2.2.2.1 (gv_P1 gh hV) 0 t0 rfl ht hin hdg (kk H locs ls gh gs gl)
theorem k_aast (C : gv_C p s m args c cc nL own D tys base) (t0 ci : Nat) {cA : ClassId} {r : vw_C} {a n b : Nat} {vs : List Value} {f f' : Nat → Option Nat} {i : Int32} (hV : V a = some (.inl (cA, n, .inr (.inr (.inr (.inr f)))))) (ht : tys[t0]? = some (cA, .object r.1)) (hb : V b = some (.inr (ci, vs))) (hc : classes[ci]? = some r) (hin : vp_in i n) (hf : va_up f i.toNatClampNeg (some b) = f') (hdg : decode cc pc = .ok (.aastore, 1))
    (kk : K p l e R s m args below meth c D base nL Q (gv_up V a (.inl (cA, n, .inr (.inr (.inr (.inr f')))))) cells slots lv (pc + 1) rest) : K p l e R s m args below meth c D base nL Q V cells slots lv pc (.ref b :: .int i :: .ref a :: rest) := by
  subst hf
  intro H locs ls gh gs gl
  obtain ⟨ws, hP, hD, hw⟩ := gv_list gh
  obtain ⟨j, hj⟩ := hw _ _ hV
  obtain ⟨j2, hj2⟩ := hw _ _ hb
  exact va_astq C.1 C.2.1 C.2.2.2.2.2.1 hP hD gs j t0 j2 ci hj ht hj2 hc hin hdg (fun H1 locs1 hP1 _ hS1 => kk H1 locs1 ls (gv_of_set hD hw hj hP1) hS1 gl)
theorem k_alen (C : gv_C p s m args c cc nL own D tys base) (t0 : Nat) {cA : ClassId} {a : Nat} {x : vp_A} {ty : FieldType} {v : Int32} (hV : V a = some (.inl (cA, x))) (ht : tys[t0]? = some (cA, ty)) (hv : Int32.ofNat x.1 = v) (hdg : decode cc pc = .ok (.arraylength, 1))
    (kk : K p l e R s m args below meth c D base nL Q V cells slots lv (pc + 1) (.int v :: rest)) : K p l e R s m args below meth c D base nL Q V cells slots lv pc (.ref a :: rest) :=
  fun H locs ls gh gs gl => va_alen C.1 C.2.1 C.2.2.2.2.2.1 (gv_P1 gh hV) 0 t0 rfl ht hv hdg (kk H locs ls gh gs gl)
/-- a new int array -/
theorem k_newi (C : gv_C p s m args c cc nL own D tys base) (t0 : Nat) {cA : ClassId} (ht : tys[t0]? = some (cA, .int)) (harr : Cond.arrayClass .int ∈ gv_tbl) {n : Int32} {N' : Nat} (hn : ¬ n < 0) (hN : n.toNatClampNeg = N') (hbytes : N' * componentBytes .int ≤ 536870912) (hcells : cells + 1 ≤ R.cells) (hslots : slots + N' ≤ R.slots) (hdg : decode cc pc = .ok (.newarray .int, 2))
    (kk : ∀ q : Nat, V q = none → K p l e R s m args below meth c D base nL Q (gv_up V q (.inl (cA, N', .inl (fun _ => 0)))) (cells + 1) (slots + N') lv (pc + 2) (.ref q :: rest)) : K p l e R s m args below meth c D base nL Q V cells slots lv pc (.int n :: rest) := by
  obtain ⟨hx, hb, hml, hown, hts, hK, hbase⟩ := C
  intro H locs ls gh gs gl
  obtain ⟨ws, hP, hD, hw⟩ := gv_list gh
  refine va_newa hx hb (atype := .int) (hts _ harr) rfl hK hP hD gs (fun q h => Nat.le_trans hbase h) (a0 := (N', .inl (fun _ => 0))) (fun _ => rfl) hn hN hbytes hcells hslots hdg (fun q cA' H1 hK1 hP1 hD1 hS1 => ?_)
  have e1 : s.vm.findClass ("[" ++ FieldType.int.toString) = some cA := (hK.2 t0 _ ht).2
  have e2 : s.vm.findClass ("[" ++ FieldType.int.toString) = some cA' := (hK1.2 tys.length (cA', newarray.typeOf .int) (by simp)).2
  cases e1.symm.trans e2
  obtain ⟨f1, f2⟩ := gv_of_app hw hP1 hD1
  exact kk q f1 H1 locs ls f2 hS1 gl
/-- a new array of references -/
theorem k_newq (C : gv_C p s m args c cc nL own D tys base) (t0 : Nat) {cA : ClassId} {Cn : String} {index : Nat} (ht : tys[t0]? = some (cA, .object Cn)) (hlink : Cond.classLink own index Cn ∈ gv_tbl) (hover : Cond.arrayOver (.object Cn) ∈ gv_tbl) {n : Int32} {N' : Nat} (hn : ¬ n < 0) (hN : n.toNatClampNeg = N') (hbytes : N' * 4 ≤ 536870912) (hcells : cells + 1 ≤ R.cells) (hslots : slots + N' ≤ R.slots) (hdg : decode cc pc = .ok (.anewarray index, 3))
    (kk : ∀ q : Nat, V q = none → K p l e R s m args below meth c D base nL Q (gv_up V q (.inl (cA, N', .inr (.inr (.inr (.inr (fun _ => none))))))) (cells + 1) (slots + N') lv (pc + 3) (.ref q :: rest)) : K p l e R s m args below meth c D base nL Q V cells slots lv pc (.int n :: rest) := by
  obtain ⟨hx, hb, hml, hown, hts, hK, hbase⟩ := C
  intro H locs ls gh gs gl
  obtain ⟨ws, hP, hD, hw⟩ := gv_list gh
  subst hN
  refine W.anew hx hb hown (hts _ hlink) (hts _ hover) rfl hdg rfl hn hbytes hcells hslots fun cA' kA comp f1 f2 f3 f4 => ?_
  obtain ⟨_, _, _, _, _, e1⟩ := (hK.2 t0 _ ht).2
  cases e1.symm.trans f1
  generalize hH1 : H.push ({ cls := cA, slots := Array.replicate n.toNatClampNeg .null, vm := .none } : Cell) = H1
  have z1 : H1.size = H.size + 1 := by rw [← hH1, Array.size_push]
  have e1 : H1[H.size]? = some (arrV cA n.toNatClampNeg (fun _ => .null)) := by rw [← hH1, Array.getElem?_push_size, ← arrV_new]
  have o1 : ∀ q : Nat, q < H.size → H1[q]? = H[q]? := fun q hq => by rw [← hH1, Array.getElem?_push, if_neg (Nat.ne_of_lt hq)]
  have hk : ∀ (k : Nat) (x : Nat × va_E), ws[k]? = some x → H1[x.1]? = H[x.1]? := fun k x hx => o1 x.1 ((hP k x hx).lt)
  have hP1 : va_P D classes (ws ++ [(H.size, .inl (cA, n.toNatClampNeg, .inr (.inr (.inr (.inr (fun _ => none))))))]) H1 := (hP.kept hk).app (fun k x hx => by
    have hz : k < 1 := (List.getElem?_eq_some_iff.mp hx).1
    rw [show k = 0 by omega] at hx
    cases hx
    show H1[H.size]? = some (vp_cell _ _)
    rw [vp_cell_q]
    exact e1)
  obtain ⟨g1, g2⟩ := gv_of_app hw hP1 (hD.push hP rfl (Nat.le_trans hbase gs.1))
  exact kk H.size g1 H1 locs ls g2 ⟨Nat.le_trans gs.1 (by omega), fun x h1 h2 => (o1 x (Nat.lt_of_lt_of_le h1 gs.1)).trans (gs.2.1 x h1 h2), gs.2.2⟩ gl
/-- a new object -/
def gv_N (own : String) (index ci : Nat) (fs : List Value) (N : Nat) : Prop := ∃ (C : String) (T : u_T) (ty : Nat → FieldType), classes[ci]? = some (C, T, N) ∧ (∀ w ∈ u_ws C T N, w ∈ gv_tbl) ∧ (∀ k, k < N → parseFieldDescriptor (T k).2.2.1 = some (ty k)) ∧ Cond.classLink own index C ∈ gv_tbl ∧ Cond.instantiable C N ∈ gv_tbl ∧ Cond.initialized C ∈ gv_tbl ∧ ∀ j, j < N → defaultValue (ty j) = vp_V fs j
theorem k_new (C : gv_C p s m args c cc nL own D tys base) {index ci N : Nat} {fs : List Value} (hN : gv_N own index ci fs N) (hcells : cells + 1 ≤ R.cells) (hslots : slots + N ≤ R.slots) (hdg : decode cc pc = .ok (.new index, 3))
    (kk : ∀ q : Nat, V q = none → K p l e R s m args below meth c D base nL Q (gv_up V q (.inr (ci, fs))) (cells + 1) (slots + N) lv (pc + 3) (.ref q :: rest)) : K p l e R s m args below meth c D base nL Q V cells slots lv pc rest := by
  obtain ⟨hx, hb, hml, hown, hts, hK, hbase⟩ := C
  obtain ⟨Cn, T, ty, hc, hin, hty, hcl, hinst, hini, hfs⟩ := hN
  intro H locs ls gh gs gl
  obtain ⟨ws, hP, hD, hw⟩ := gv_list gh
  exact va_new hx hb hts hin ty hty hown (hts _ hcl) (hts _ hinst) (hts _ hini) hK hP hD gs (fun q h => Nat.le_trans hbase h) hc hfs hcells hslots hdg (fun q H1 hP1 hD1 hS1 => kk q (gv_of_app hw hP1 hD1).1 H1 locs ls (gv_of_app hw hP1 hD1).2 hS1 gl)
theorem k_objInit (C : gv_C p s m args c cc nL own D tys base) {idx a : Nat} (hl : Cond.methodLink own idx objectInit ∈ gv_tbl) (hi : Cond.instanceMethod objectInit ∈ gv_tbl) (hc : Cond.code objectInit ⟨#[0xb1]⟩ 1 none ∈ gv_tbl) (hd : decode cc pc = .ok (.invokespecial idx, 3)) (hframes : 1 ≤ R.frames) (hlocals : (rest.map fun v => v.category).sum + 12 ≤ R.locals)
    (kk : K p l e R s m args below meth c D base nL Q V cells slots lv (pc + 3) rest) : K p l e R s m args below meth c D base nL Q V cells slots lv pc (.ref a :: rest) := by
  obtain ⟨hx, hb, hml, hown, hts, hK, hbase⟩ := C
  intro H locs ls gh gs gl
  exact W.objInit hx hb hown (hts _ hl) (hts _ hi) (hts _ hc) rfl (by rw [hml]; exact gl.1) rfl hd hframes (by show 2 * 0 + _ + 12 ≤ _; omega) (kk H locs ls gh gs gl)
theorem k_lcmp (C : gv_C p s m args c cc nL own D tys base) {x y : Int64} (hdg : decode cc pc = .ok (.lcmp, 1)) (k : K p l e R s m args below meth c D base nL Q V cells slots lv (pc + 1) (.int (lg_cmp x y) :: rest)) : K p l e R s m args below meth c D base nL Q V cells slots lv pc (.long y :: .long x :: rest) := fun H locs ls gh gs gl => W.lcmp C.1 C.2.1 hdg (k H locs ls gh gs gl)
theorem k_mmax (C : gv_C p s m args c cc nL own D tys base) {index : Nat} {x y : Int32} (hl : Cond.methodLink own index Lib.Math.max.name ∈ gv_tbl) (hst : Cond.static Lib.Math.max.name ∈ gv_tbl) (hi : Cond.initialized "java/lang/Math" ∈ gv_tbl) (hco : Cond.code Lib.Math.max.name Lib.Math.max.code 2 (some .int) ∈ gv_tbl) (hframes : 1 ≤ R.frames) (hlocals : (rest.map fun v => v.category).sum + 13 ≤ R.locals) (hc : cells ≤ R.cells) (hs : slots ≤ R.slots) (hdg : decode cc pc = .ok (.invokestatic index, 3))
    (k : K p l e R s m args below meth c D base nL Q V cells slots lv (pc + 3) (.int (if x < y then y else x) :: rest)) : K p l e R s m args below meth c D base nL Q V cells slots lv pc (.int y :: .int x :: rest) := by
  obtain ⟨hx, hb, hml, hown, hts, hK, hbase⟩ := C
  exact fun H locs ls gh gs gl => va_mmax hx hb (hml.trans gl.1.symm) hown (hts _ hl) (hts _ hst) (hts _ hi) (hts _ hco) hframes hlocals hc hs hdg (k H locs ls gh gs gl)
theorem k_mmin (C : gv_C p s m args c cc nL own D tys base) {index : Nat} {x y : Int32} (hl : Cond.methodLink own index Lib.Math.min.name ∈ gv_tbl) (hst : Cond.static Lib.Math.min.name ∈ gv_tbl) (hi : Cond.initialized "java/lang/Math" ∈ gv_tbl) (hco : Cond.code Lib.Math.min.name Lib.Math.min.code 2 (some .int) ∈ gv_tbl) (hframes : 1 ≤ R.frames) (hlocals : (rest.map fun v => v.category).sum + 13 ≤ R.locals) (hc : cells ≤ R.cells) (hs : slots ≤ R.slots) (hdg : decode cc pc = .ok (.invokestatic index, 3))
    (k : K p l e R s m args below meth c D base nL Q V cells slots lv (pc + 3) (.int (if y < x then y else x) :: rest)) : K p l e R s m args below meth c D base nL Q V cells slots lv pc (.int y :: .int x :: rest) := by
  obtain ⟨hx, hb, hml, hown, hts, hK, hbase⟩ := C
  exact fun H locs ls gh gs gl => va_mmin hx hb (hml.trans gl.1.symm) hown (hts _ hl) (hts _ hst) (hts _ hi) (hts _ hco) hframes hlocals hc hs hdg (k H locs ls gh gs gl)
/-- System.arraycopy of ints -/
theorem k_copyi (C : gv_C p s m args c cc nL own D tys base) {index : Nat} (hl : Cond.methodLink own index arraycopyName ∈ gv_tbl) (hnat : Cond.native arraycopyName ∈ gv_tbl) (hst : Cond.static arraycopyName ∈ gv_tbl) (hi : Cond.initialized "java/lang/System" ∈ gv_tbl) (t0 : Nat) {cA : ClassId} {a0 a n0 n1 : Nat} {f g : Nat → Int32} {h : Nat → Int32} (h0 : V a0 = some (.inl (cA, n0, .inl f))) (h1 : V a = some (.inl (cA, n1, .inl g))) (ht : tys[t0]? = some (cA, .int))
    {sp dp n : Int32} (i1 : ¬ sp < 0) (i2 : ¬ dp < 0) (i3 : ¬ n < 0) (i4 : sp.toNatClampNeg + n.toNatClampNeg ≤ n0) (i5 : dp.toNatClampNeg + n.toNatClampNeg ≤ n1) (hh : va_cpy f g sp.toNatClampNeg dp.toNatClampNeg n.toNatClampNeg = h)
    (hframes : 1 ≤ R.frames) (hlocals : (rest.map fun v => v.category).sum + (nativeFrameWords "java/lang/System" "arraycopy" 5 + 11) ≤ R.locals) (hdg : decode cc pc = .ok (.invokestatic index, 3))
    (k : K p l e R s m args below meth c D base nL Q (gv_up V a (.inl (cA, n1, .inl h))) cells slots lv (pc + 3) rest) : K p l e R s m args below meth c D base nL Q V cells slots lv pc (.int n :: .int dp :: .ref a :: .int sp :: .ref a0 :: rest) := by
  obtain ⟨hx, hb, hml, hown, hts, hK, hbase⟩ := C
  subst hh
  intro H locs ls gh gs gl
  obtain ⟨ws, hP, hD, hw⟩ := gv_list gh
  obtain ⟨j0, hj0⟩ := hw _ _ h0
  obtain ⟨j1, hj1⟩ := hw _ _ h1
  exact va_copyi hx hb (hml.trans gl.1.symm) hown (hts _ hl) (hts _ hnat) (hts _ hst) (hts _ hi) hK hP hD gs j0 j1 t0 t0 hj0 hj1 ht ht rfl i1 i2 i3 i4 i5 (fun _ _ => rfl) hframes hlocals hdg (fun H1 locs1 hP1 _ hS1 => k H1 locs1 ls (gv_of_set hD hw hj1 hP1) hS1 gl)
/-! contracts -/
theorem gv_word {w : Cond} (hw : gv_ok w = true) {s U : State} {a a' : Array Value} (hW : s.WarmedH U.vm) (h : w.before a s = true) : w.before a' U = true := by
  cases w with
  | fieldLinkNest => exact va_Nw.use rfl (va_Nw.warmF hW (va_Nw.of rfl h))
  | methodLinkNest => exact va_Nw.use rfl (va_Nw.warmM hW (va_Nw.of rfl h))
  | arrayOver t =>
    cases t with
    | object C => exact va_AO.use (va_AO.moved hW.alike (va_AO.of h))
    | _ => exact word_at hW (good_of_word hw) h
  | _ => exact word_at hW (good_of_word hw) h
def gv_B (D : va_G) (tys : List (ClassId × FieldType)) (base : Nat) (V : gv_V) (U : State) : Prop := base ≤ U.heap.size ∧ gv_H D base V U.heap ∧ va_K D classes tys U ∧ ∀ w ∈ gv_tbl, w.before #[] U = true
def gv_Q (D : va_G) (tys : List (ClassId × FieldType)) (base : Nat) (post : Option Value → gv_V → Prop) : Array Value → State → Outcome → State → Prop := fun _ st oc t => (∃ (v : Option Value) (V' : gv_V), oc = .returned v ∧ post v V' ∧ gv_H D base V' t.heap ∧ va_K D classes tys t) ∧ va_F (gv_A base) st t
def gv_rm (lev mc ms : Nat) : Room := { frames := lev, cells := mc, slots := ms, locals := 40 * lev }
def ct (l : Launch) (D : va_G) (tys : List (ClassId × FieldType)) (base : Nat) (y : MethodName) (b : ByteArray) (n : Nat) (r : Option FieldType) (lev mc ms : Nat) (As : List Value) (V : gv_V) (post : Option Value → gv_V → Prop) : Prop :=
  Met l y [.code y b n r] (gv_rm lev mc ms) (va_Pc As (gv_B D tys base V)) (gv_Q D tys base post) mc ms (gv_A base)
/-- the end of a contract's run -/
def gv_E (D : va_G) (tys : List (ClassId × FieldType)) (base : Nat) (below : List Frame) (args : Array Value) (s : State) (mc ms : Nat) (post : Option Value → gv_V → Prop) : State → Prop := MQ below (gv_Q D tys base post) args s mc ms (gv_A base)
theorem ct_of {y : MethodName} {b : ByteArray} {n : Nat} {r : Option FieldType} {lev mc ms : Nat} {As : List Value} {post : Option Value → gv_V → Prop} (own : String) (hyo : y.cls = own) (hy : plainName own = true) (hlen : (lg_sl As).length ≤ n)
    (body : ∀ (p : Program) (e : Env) (s : State) (m : MethodId) (args : Array Value) (below : List Frame) (meth : Method) (c : Code), gv_C p s m args c b n own D tys base → meth.sig.returnType = r → meth.locks = false → meth.name = y.name →
      K p l e (gv_rm lev mc ms) s m args below meth c D base n (gv_E D tys base below args s mc ms post) V 0 0 (lv_args 0 As) 0 []) : ct l D tys base y b n r lev mc ms As V post := by
  subst hyo
  refine Met.ofW (cc := b) (maxL := n) (ret := r) hy rfl ?_
  intro p e s m args below meth c s₁ B hml hv
  obtain ⟨rfl, hbase, hH, hK, hts⟩ := hv
  have hl := lv_entry As (n := n) hlen
  rw [lg_entry_eq]
  exact body p e s m As.toArray below meth c ⟨B.exec, B.bytes, hml, findClass_of_methodNamed B.named, fun w hw => gv_word (lw_ok w hw) (State.WarmedH.refl s) (hts w hw), hK, hbase⟩ B.returns B.notSynchronized (name_of_methodNamed B.named B.method).1 s.heap [] _ hH va_S.rf hl
section RET
variable {mc ms : Nat} {post : Option Value → gv_V → Prop}
theorem gv_end {H : Heap} {locs : List Loc} {v : Option Value} {a : Array Value} (hK : va_K D classes tys s) (gh : gv_H D base V H) (gs : va_S (gv_A base) s.heap H locs) (hp : post v V) : ∀ t : State, t.heap = H → s.WarmedH t.vm → gv_Q D tys base post a s (.returned v) t :=
  fun t ht hW => ⟨⟨v, V, rfl, hp, by rw [ht]; exact gh, va_K.moved hW.alike hK⟩, gs.F ht⟩
theorem k_iret (C : gv_C p s m args c cc nL own D tys base) {v : Int32} (hr : meth.sig.returnType = some .int) (hlocks : meth.locks = false) (hp : post (some (.int v)) V) (hc : cells ≤ mc) (hs : slots ≤ ms) (hdg : decode cc pc = .ok (.ireturn, 1)) :
    K p l e R s m args below meth c D base nL (gv_E D tys base below args s mc ms post) V cells slots lv pc [.int v] := fun H locs ls gh gs gl => by
  refine W.widen hc hs ?_
  exact W.iret C.1 C.2.1 hr (gv_end C.2.2.2.2.2.1 gh gs hp) gs.2.2 hdg hlocks
theorem k_zret (C : gv_C p s m args c cc nL own D tys base) {v : Int32} {ty : FieldType} (hr : meth.sig.returnType = some ty) (hlocks : meth.locks = false) (hn : narrow ty (.int v) = .int v) (hp : post (some (.int v)) V) (hc : cells ≤ mc) (hs : slots ≤ ms) (hdg : decode cc pc = .ok (.ireturn, 1)) :
    K p l e R s m args below meth c D base nL (gv_E D tys base below args s mc ms post) V cells slots lv pc [.int v] := fun H locs ls gh gs gl => by
  refine W.widen hc hs ?_
  exact W.zret C.1 C.2.1 hr hn (gv_end C.2.2.2.2.2.1 gh gs hp) gs.2.2 hdg hlocks
theorem k_lret (C : gv_C p s m args c cc nL own D tys base) {v : Int64} (hr : meth.sig.returnType = some .long) (hlocks : meth.locks = false) (hp : post (some (.long v)) V) (hc : cells ≤ mc) (hs : slots ≤ ms) (hdg : decode cc pc = .ok (.lreturn, 1)) :
    K p l e R s m args below meth c D base nL (gv_E D tys base below args s mc ms post) V cells slots lv pc [.long v] := fun H locs ls gh gs gl => by
  refine W.widen hc hs ?_
  exact W.lret C.1 C.2.1 hr (gv_end C.2.2.2.2.2.1 gh gs hp) gs.2.2 hdg hlocks
theorem k_vret (C : gv_C p s m args c cc nL own D tys base) (hr : meth.sig.returnType = none) (hlocks : meth.locks = false) (hp : post none V) (hc : cells ≤ mc) (hs : slots ≤ ms) (hdg : decode cc pc = .ok (.return_, 1)) :
    K p l e R s m args below meth c D base nL (gv_E D tys base below args s mc ms post) V cells slots lv pc [] := fun H locs ls gh gs gl => by
  refine W.widen hc hs ?_
  exact W.vret C.1 C.2.1 hr (gv_end C.2.2.2.2.2.1 gh gs hp) gs.2.2 hdg hlocks
theorem k_aret (C : gv_C p s m args c cc nL own D tys base) {a : Nat} {cn : String} (hr : meth.sig.returnType = some (.object cn)) (hlocks : meth.locks = false) (hp : post (some (.ref a)) V) (hc : cells ≤ mc) (hs : slots ≤ ms) (hdg : decode cc pc = .ok (.areturn, 1)) :
    K p l e R s m args below meth c D base nL (gv_E D tys base below args s mc ms post) V cells slots lv pc [.ref a] := fun H locs ls gh gs gl => by
  refine W.widen hc hs ?_
  exact W.aret C.1 C.2.1 hr (Or.inl ⟨cn, rfl⟩) (Or.inr ⟨a, rfl⟩) (gv_end C.2.2.2.2.2.1 gh gs hp) gs.2.2 hdg hlocks
end RET
section CALL
variable {y : MethodName} {b : ByteArray} {n : Nat} {r : Option FieldType} {lev mc ms index : Nat} {As : List Value} {post : Option Value → gv_V → Prop} {stk : List Value}
theorem gv_blind : FrameBlind (va_Pc As (gv_B D tys base V)) := fun a U g mk q => ⟨q.1, q.2.1, q.2.2.1, va_K.moved (u := U) (U := U.calling g mk a) (Vm.Alike.refl U.vm) q.2.2.2.1, fun w hw => gv_word (U := U.calling g mk a) (lw_ok w hw) (State.WarmedH.refl U) (q.2.2.2.2 w hw)⟩
theorem gv_pre {H : Heap} {locs : List Loc} (hts : ∀ w ∈ gv_tbl, w.before args s = true) (hbase : base ≤ s.heap.size) (hK : va_K D classes tys s) (gh : gv_H D base V H) (gs : va_S (gv_A base) s.heap H locs) : ∀ U : State, U.heap = H → s.WarmedH U.vm → va_Pc As (gv_B D tys base V) As.toArray U := fun U hU hW => ⟨rfl, by rw [hU]; exact Nat.le_trans hbase gs.1, by rw [hU]; exact gh, va_K.moved hW.alike hK, fun w hw => gv_word (lw_ok w hw) hW (hts w hw)⟩
/-- behind a call -/
theorem gv_back {H : Heap} {locs : List Loc} {ls : Array Slot} {a : Array Value} (gs : va_S (gv_A base) s.heap H locs) (gl : lv_has ls nL lv)
    (hr : va_Run p l e R s m args below meth c H locs cells slots mc ms (F0 m pc ls stk) rest (gv_Q D tys base post a) (gv_A base))
    (kk : ∀ (v : Option Value) (V' : gv_V), post v V' → K p l e R s m args below meth c D base nL Q V' (cells + mc) (slots + ms) lv (pc + 3) (v.toList ++ rest)) : W p l e R s m args below meth c H locs cells slots Q (F0 m pc ls stk) := by
  intro T hT X
  obtain ⟨v, st₀, t, T', L, h0, X', hL, e1, e2, ⟨⟨v', V', hv, hp, hH, hKt⟩, hz, hk⟩, st⟩ := hr T hT X
  cases hv
  rw [h0] at hz hk
  obtain ⟨t2, a1, b1⟩ := kk v V' hp T'.heap (locs ++ L) ls (by rw [e1]; exact hH)
    ⟨Nat.le_trans gs.1 (by rw [e1]; exact hz), fun q h1 h2 => by rw [e1, hk q (Nat.lt_of_lt_of_le h1 gs.1) h2]; exact gs.2.1 q h1 h2, fun q hq => by
      rcases List.mem_append.mp hq with h | h
      · exact gs.2.2 q h
      · exact hL q h⟩ gl T' rfl X'
  exact ⟨t2, st t2 a1, b1⟩
def gv_y (y : MethodName) (na : Nat) : Prop := y.cls ≠ "java/lang/invoke/MethodHandle" ∧ y.cls ≠ "java/lang/invoke/VarHandle" ∧ (parseMethodDescriptor y.desc).map (fun d => d.parameters.length) = some na
/-- the words of a call: of a static method, of a method of an object, of a constructor -/
def gv_MS (own : String) (index : Nat) (y : MethodName) (b : ByteArray) (n : Nat) (r : Option FieldType) (na : Nat) : Prop := Cond.code y b n r ∈ gv_tbl ∧ Cond.static y ∈ gv_tbl ∧ Cond.initialized y.cls ∈ gv_tbl ∧ gv_y y na ∧ (Cond.methodLink own index y ∈ gv_tbl ∨ ∃ host : String, Cond.methodLinkNest own index y host ∈ gv_tbl)
def gv_MV (own : String) (index : Nat) (y : MethodName) (b : ByteArray) (n : Nat) (r : Option FieldType) (na ci : Nat) : Prop := Cond.code y b n r ∈ gv_tbl ∧ Cond.instanceMethod y ∈ gv_tbl ∧ Cond.selects y.cls y y ∈ gv_tbl ∧ Cond.initialized y.cls ∈ gv_tbl ∧ gv_y y na ∧ (Cond.methodLink own index y ∈ gv_tbl ∨ ∃ host : String, Cond.methodLinkNest own index y host ∈ gv_tbl) ∧ ∃ (T : u_T) (N : Nat), classes[ci]? = some (y.cls, T, N)
def gv_MI (own : String) (index : Nat) (y : MethodName) (b : ByteArray) (n : Nat) (na : Nat) : Prop := Cond.code y b n none ∈ gv_tbl ∧ y.name = "<init>" ∧ Cond.instanceMethod y ∈ gv_tbl ∧ Cond.initialized y.cls ∈ gv_tbl ∧ gv_y y na ∧ (Cond.methodLink own index y ∈ gv_tbl ∨ ∃ host : String, Cond.methodLinkNest own index y host ∈ gv_tbl)
theorem gv_ws (hc : Cond.code y b n r ∈ gv_tbl) : GoodIn gv_tbl [.code y b n r] := fun w hw => by
  rw [List.mem_singleton.mp hw]
  exact ⟨hc, Or.inl rfl⟩
theorem k_callS (C : gv_C p s m args c cc nL own D tys base) {na : Nat} (hm : gv_MS own index y b n r na) (hM : ct l D tys base y b n r lev mc ms As V post) (hst : stk = As.reverse ++ rest) (hn : As.length = na) (hW : (rest.map fun v => v.category).sum ≤ 8)
    (hR : lev + 1 ≤ R.frames ∧ 8 + (n + 11) + 40 * lev ≤ R.locals) (hf : cells + mc ≤ R.cells ∧ slots + ms ≤ R.slots) (hdg : decode cc pc = .ok (.invokestatic index, 3))
    (kk : ∀ (v : Option Value) (V' : gv_V), post v V' → K p l e R s m args below meth c D base nL Q V' (cells + mc) (slots + ms) lv (pc + 3) (v.toList ++ rest)) : K p l e R s m args below meth c D base nL Q V cells slots lv pc stk := by
  obtain ⟨hx, hb, hml, hown, hts, hK, hbase⟩ := C
  obtain ⟨m1, m2, m3, ⟨m4, m5, m6⟩, m7⟩ := hm
  intro H locs ls gh gs gl
  refine gv_back (tys := tys) (D := D) (post := post) (a := As.toArray) gs gl ?_ kk
  rcases m7 with h | ⟨host, h⟩
  · exact va_runS (Ts := gv_tbl) ⟨hx, hb, hml, hown, hts⟩ hM ⟨callB_of na hts (gv_ws m1) rfl rfl rfl (hts _ m3) (hts _ h) ⟨m4, m5, m6⟩ hR, hts _ m2⟩ ⟨gv_blind, gv_pre hts hbase hK gh gs⟩ rfl hn gl.1 hst (lv_room hW) hdg hf
  · exact va_runSN (Ts := gv_tbl) ⟨hx, hb, hml, hown, hts⟩ hM ⟨va_cnB na hts (gv_ws m1) rfl rfl rfl (va_Nw.of rfl (hts _ h)) (hts _ m3) ⟨m4, m5, m6⟩ hR, hts _ m2, trivial⟩ ⟨gv_blind, gv_pre hts hbase hK gh gs⟩ rfl hn gl.1 hst (lv_room hW) hdg hf
theorem k_callV (C : gv_C p s m args c cc nL own D tys base) {na ci a : Nat} {fs : List Value} (hm : gv_MV own index y b n r na ci) (hM : ct l D tys base y b n r lev mc ms (.ref a :: As) V post) (hV : V a = some (.inr (ci, fs))) (hst : stk = As.reverse ++ .ref a :: rest) (hn : As.length = na) (hW : (rest.map fun v => v.category).sum ≤ 8)
    (hR : lev + 1 ≤ R.frames ∧ 8 + (n + 11) + 40 * lev ≤ R.locals) (hf : cells + mc ≤ R.cells ∧ slots + ms ≤ R.slots) (hdg : decode cc pc = .ok (.invokevirtual index, 3))
    (kk : ∀ (v : Option Value) (V' : gv_V), post v V' → K p l e R s m args below meth c D base nL Q V' (cells + mc) (slots + ms) lv (pc + 3) (v.toList ++ rest)) : K p l e R s m args below meth c D base nL Q V cells slots lv pc stk := by
  obtain ⟨hx, hb, hml, hown, hts, hK, hbase⟩ := C
  obtain ⟨m1, m2, m8, m3, ⟨m4, m5, m6⟩, m7, T, N, hc⟩ := hm
  intro H locs ls gh gs gl
  refine gv_back (tys := tys) (D := D) (post := post) (a := (Value.ref a :: As).toArray) gs gl ?_ kk
  have hre := va_recv (q0 := 0) hK (gv_P1 gh hV) hc rfl
  rcases m7 with h | ⟨host, h⟩
  · exact va_runV (Ts := gv_tbl) (C := y.cls) ⟨hx, hb, hml, hown, hts⟩ hM ⟨callB_of na hts (gv_ws m1) rfl rfl rfl (hts _ m3) (hts _ h) ⟨m4, m5, m6⟩ hR, hts _ m2, hts _ m8⟩ ⟨gv_blind, hre, gv_pre hts hbase hK gh gs⟩ rfl hn gl.1 hst (lv_room hW) hdg hf
  · exact va_runVN (Ts := gv_tbl) (C := y.cls) ⟨hx, hb, hml, hown, hts⟩ hM ⟨va_cnB na hts (gv_ws m1) rfl rfl rfl (va_Nw.of rfl (hts _ h)) (hts _ m3) ⟨m4, m5, m6⟩ hR, hts _ m2, hts _ m8⟩ ⟨gv_blind, hre, gv_pre hts hbase hK gh gs⟩ rfl hn gl.1 hst (lv_room hW) hdg hf
theorem k_callI (C : gv_C p s m args c cc nL own D tys base) {na a : Nat} (hm : gv_MI own index y b n na) (hM : ct l D tys base y b n none lev mc ms (.ref a :: As) V post) (hst : stk = As.reverse ++ .ref a :: rest) (hn : As.length = na) (hW : (rest.map fun v => v.category).sum ≤ 8)
    (hR : lev + 1 ≤ R.frames ∧ 8 + (n + 11) + 40 * lev ≤ R.locals) (hf : cells + mc ≤ R.cells ∧ slots + ms ≤ R.slots) (hdg : decode cc pc = .ok (.invokespecial index, 3))
    (kk : ∀ (v : Option Value) (V' : gv_V), post v V' → K p l e R s m args below meth c D base nL Q V' (cells + mc) (slots + ms) lv (pc + 3) (v.toList ++ rest)) : K p l e R s m args below meth c D base nL Q V cells slots lv pc stk := by
  obtain ⟨hx, hb, hml, hown, hts, hK, hbase⟩ := C
  obtain ⟨m1, m2, m8, m3, ⟨m4, m5, m6⟩, m7⟩ := hm
  intro H locs ls gh gs gl
  refine gv_back (tys := tys) (D := D) (post := post) (a := (Value.ref a :: As).toArray) gs gl ?_ kk
  rcases m7 with h | ⟨host, h⟩
  · exact va_runI (Ts := gv_tbl) ⟨hx, hb, hml, hown, hts⟩ hM ⟨callB_of na hts (gv_ws m1) rfl rfl rfl (hts _ m3) (hts _ h) ⟨m4, m5, m6⟩ hR, m2, hts _ m8⟩ ⟨gv_blind, gv_pre hts hbase hK gh gs⟩ rfl hn gl.1 hst (lv_room hW) hdg hf
  · exact va_runIN (Ts := gv_tbl) ⟨hx, hb, hml, hown, hts⟩ hM ⟨va_cnB na hts (gv_ws m1) rfl rfl rfl (va_Nw.of rfl (hts _ h)) (hts _ m3) ⟨m4, m5, m6⟩ hR, m2, hts _ m8⟩ ⟨gv_blind, gv_pre hts hbase hK gh gs⟩ rfl hn gl.1 hst (lv_room hW) hdg hf
/-- answers that are determined -/
def pi (r : Int32) (V : gv_V) : Option Value → gv_V → Prop := fun v V' => v = some (.int r) ∧ V' = V
def pl (r : Int64) (V : gv_V) : Option Value → gv_V → Prop := fun v V' => v = some (.long r) ∧ V' = V
def pr (r : Nat) (V : gv_V) : Option Value → gv_V → Prop := fun v V' => v = some (.ref r) ∧ V' = V
def pv (V : gv_V) : Option Value → gv_V → Prop := fun v V' => v = none ∧ V' = V
theorem k_callS_pi (C : gv_C p s m args c cc nL own D tys base) {na : Nat} {x : Int32} {V1 : gv_V} (hm : gv_MS own index y b n r na) (hM : ct l D tys base y b n r lev mc ms As V (pi x V1)) (hst : stk = As.reverse ++ rest) (hn : As.length = na) (hW : (rest.map fun v => v.category).sum ≤ 8)
    (hR : lev + 1 ≤ R.frames ∧ 8 + (n + 11) + 40 * lev ≤ R.locals) (hf : cells + mc ≤ R.cells ∧ slots + ms ≤ R.slots) (hdg : decode cc pc = .ok (.invokestatic index, 3))
    (kk : K p l e R s m args below meth c D base nL Q V1 (cells + mc) (slots + ms) lv (pc + 3) (.int x :: rest)) : K p l e R s m args below meth c D base nL Q V cells slots lv pc stk :=
  k_callS C hm hM hst hn hW hR hf hdg (fun v V' hp => by obtain ⟨rfl, rfl⟩ := hp; exact kk)
theorem k_callS_pl (C : gv_C p s m args c cc nL own D tys base) {na : Nat} {x : Int64} {V1 : gv_V} (hm : gv_MS own index y b n r na) (hM : ct l D tys base y b n r lev mc ms As V (pl x V1)) (hst : stk = As.reverse ++ rest) (hn : As.length = na) (hW : (rest.map fun v => v.category).sum ≤ 8)
    (hR : lev + 1 ≤ R.frames ∧ 8 + (n + 11) + 40 * lev ≤ R.locals) (hf : cells + mc ≤ R.cells ∧ slots + ms ≤ R.slots) (hdg : decode cc pc = .ok (.invokestatic index, 3))
    (kk : K p l e R s m args below meth c D base nL Q V1 (cells + mc) (slots + ms) lv (pc + 3) (.long x :: rest)) : K p l e R s m args below meth c D base nL Q V cells slots lv pc stk :=
  k_callS C hm hM hst hn hW hR hf hdg (fun v V' hp => by obtain ⟨rfl, rfl⟩ := hp; exact kk)
theorem k_callS_pr (C : gv_C p s m args c cc nL own D tys base) {na : Nat} {x : Nat} {V1 : gv_V} (hm : gv_MS own index y b n r na) (hM : ct l D tys base y b n r lev mc ms As V (pr x V1)) (hst : stk = As.reverse ++ rest) (hn : As.length = na) (hW : (rest.map fun v => v.category).sum ≤ 8)
    (hR : lev + 1 ≤ R.frames ∧ 8 + (n + 11) + 40 * lev ≤ R.locals) (hf : cells + mc ≤ R.cells ∧ slots + ms ≤ R.slots) (hdg : decode cc pc = .ok (.invokestatic index, 3))
    (kk : K p l e R s m args below meth c D base nL Q V1 (cells + mc) (slots + ms) lv (pc + 3) (.ref x :: rest)) : K p l e R s m args below meth c D base nL Q V cells slots lv pc stk :=
  k_callS C hm hM hst hn hW hR hf hdg (fun v V' hp => by obtain ⟨rfl, rfl⟩ := hp; exact kk)
theorem k_callS_pv (C : gv_C p s m args c cc nL own D tys base) {na : Nat}  {V1 : gv_V} (hm : gv_MS own index y b n r na) (hM : ct l D tys base y b n r lev mc ms As V (pv V1)) (hst : stk = As.reverse ++ rest) (hn : As.length = na) (hW : (rest.map fun v => v.category).sum ≤ 8)
    (hR : lev + 1 ≤ R.frames ∧ 8 + (n + 11) + 40 * lev ≤ R.locals) (hf : cells + mc ≤ R.cells ∧ slots + ms ≤ R.slots) (hdg : decode cc pc = .ok (.invokestatic index, 3))
    (kk : K p l e R s m args below meth c D base nL Q V1 (cells + mc) (slots + ms) lv (pc + 3) (rest)) : K p l e R s m args below meth c D base nL Q V cells slots lv pc stk :=
  k_callS C hm hM hst hn hW hR hf hdg (fun v V' hp => by obtain ⟨rfl, rfl⟩ := hp; exact kk)
theorem k_callV_pi (C : gv_C p s m args c cc nL own D tys base) {na ci a : Nat} {fs : List Value} {x : Int32} {V1 : gv_V} (hm : gv_MV own index y b n r na ci) (hM : ct l D tys base y b n r lev mc ms (.ref a :: As) V (pi x V1)) (hV : V a = some (.inr (ci, fs))) (hst : stk = As.reverse ++ .ref a :: rest) (hn : As.length = na) (hW : (rest.map fun v => v.category).sum ≤ 8)
    (hR : lev + 1 ≤ R.frames ∧ 8 + (n + 11) + 40 * lev ≤ R.locals) (hf : cells + mc ≤ R.cells ∧ slots + ms ≤ R.slots) (hdg : decode cc pc = .ok (.invokevirtual index, 3))
    (kk : K p l e R s m args below meth c D base nL Q V1 (cells + mc) (slots + ms) lv (pc + 3) (.int x :: rest)) : K p l e R s m args below meth c D base nL Q V cells slots lv pc stk :=
  k_callV C hm hM hV hst hn hW hR hf hdg (fun v V' hp => by obtain ⟨rfl, rfl⟩ := hp; exact kk)
theorem k_callV_pl (C : gv_C p s m args c cc nL own D tys base) {na ci a : Nat} {fs : List Value} {x : Int64} {V1 : gv_V} (hm : gv_MV own index y b n r na ci) (hM : ct l D tys base y b n r lev mc ms (.ref a :: As) V (pl x V1)) (hV : V a = some (.inr (ci, fs))) (hst : stk = As.reverse ++ .ref a :: rest) (hn : As.length = na) (hW : (rest.map fun v => v.category).sum ≤ 8)
    (hR : lev + 1 ≤ R.frames ∧ 8 + (n + 11) + 40 * lev ≤ R.locals) (hf : cells + mc ≤ R.cells ∧ slots + ms ≤ R.slots) (hdg : decode cc pc = .ok (.invokevirtual index, 3))
    (kk : K p l e R s m args below meth c D base nL Q V1 (cells + mc) (slots + ms) lv (pc + 3) (.long x :: rest)) : K p l e R s m args below meth c D base nL Q V cells slots lv pc stk :=
  k_callV C hm hM hV hst hn hW hR hf hdg (fun v V' hp => by obtain ⟨rfl, rfl⟩ := hp; exact kk)
theorem k_callV_pr (C : gv_C p s m args c cc nL own D tys base) {na ci a : Nat} {fs : List Value} {x : Nat} {V1 : gv_V} (hm : gv_MV own index y b n r na ci) (hM : ct l D tys base y b n r lev mc ms (.ref a :: As) V (pr x V1)) (hV : V a = some (.inr (ci, fs))) (hst : stk = As.reverse ++ .ref a :: rest) (hn : As.length = na) (hW : (rest.map fun v => v.category).sum ≤ 8)
    (hR : lev + 1 ≤ R.frames ∧ 8 + (n + 11) + 40 * lev ≤ R.locals) (hf : cells + mc ≤ R.cells ∧ slots + ms ≤ R.slots) (hdg : decode cc pc = .ok (.invokevirtual index, 3))
    (kk : K p l e R s m args below meth c D base nL Q V1 (cells + mc) (slots + ms) lv (pc + 3) (.ref x :: rest)) : K p l e R s m args below meth c D base nL Q V cells slots lv pc stk :=
  k_callV C hm hM hV hst hn hW hR hf hdg (fun v V' hp => by obtain ⟨rfl, rfl⟩ := hp; exact kk)
theorem k_callV_pv (C : gv_C p s m args c cc nL own D tys base) {na ci a : Nat} {fs : List Value}  {V1 : gv_V} (hm : gv_MV own index y b n r na ci) (hM : ct l D tys base y b n r lev mc ms (.ref a :: As) V (pv V1)) (hV : V a = some (.inr (ci, fs))) (hst : stk = As.reverse ++ .ref a :: rest) (hn : As.length = na) (hW : (rest.map fun v => v.category).sum ≤ 8)
    (hR : lev + 1 ≤ R.frames ∧ 8 + (n + 11) + 40 * lev ≤ R.locals) (hf : cells + mc ≤ R.cells ∧ slots + ms ≤ R.slots) (hdg : decode cc pc = .ok (.invokevirtual index, 3))
    (kk : K p l e R s m args below meth c D base nL Q V1 (cells + mc) (slots + ms) lv (pc + 3) (rest)) : K p l e R s m args below meth c D base nL Q V cells slots lv pc stk :=
  k_callV C hm hM hV hst hn hW hR hf hdg (fun v V' hp => by obtain ⟨rfl, rfl⟩ := hp; exact kk)
theorem k_callI_pv (C : gv_C p s m args c cc nL own D tys base) {na a : Nat}  {V1 : gv_V} (hm : gv_MI own index y b n na) (hM : ct l D tys base y b n none lev mc ms (.ref a :: As) V (pv V1)) (hst : stk = As.reverse ++ .ref a :: rest) (hn : As.length = na) (hW : (rest.map fun v => v.category).sum ≤ 8)
    (hR : lev + 1 ≤ R.frames ∧ 8 + (n + 11) + 40 * lev ≤ R.locals) (hf : cells + mc ≤ R.cells ∧ slots + ms ≤ R.slots) (hdg : decode cc pc = .ok (.invokespecial index, 3))
    (kk : K p l e R s m args below meth c D base nL Q V1 (cells + mc) (slots + ms) lv (pc + 3) (rest)) : K p l e R s m args below meth c D base nL Q V cells slots lv pc stk :=
  k_callI C hm hM hst hn hW hR hf hdg (fun v V' hp => by obtain ⟨rfl, rfl⟩ := hp; exact kk)
end CALL
end KL
