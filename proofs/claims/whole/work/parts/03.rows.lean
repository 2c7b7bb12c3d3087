/-! the walk of a method, goal first, over the picture -/
abbrev CX : Type := Program × Launch × Env × Room × State × MethodId × Array Value × List Frame × Method × Code × Nat × Nat × (State → Prop)
abbrev xp (X : CX) : Program := X.1
abbrev xl (X : CX) : Launch := X.2.1
abbrev xe (X : CX) : Env := X.2.2.1
abbrev xR (X : CX) : Room := X.2.2.2.1
abbrev xs (X : CX) : State := X.2.2.2.2.1
abbrev xm (X : CX) : MethodId := X.2.2.2.2.2.1
abbrev xa (X : CX) : Array Value := X.2.2.2.2.2.2.1
abbrev xb (X : CX) : List Frame := X.2.2.2.2.2.2.2.1
abbrev xM (X : CX) : Method := X.2.2.2.2.2.2.2.2.1
abbrev xc (X : CX) : Code := X.2.2.2.2.2.2.2.2.2.1
abbrev xk (X : CX) : Nat := X.2.2.2.2.2.2.2.2.2.2.1
abbrev xn (X : CX) : Nat := X.2.2.2.2.2.2.2.2.2.2.2.1
abbrev xQ (X : CX) : State → Prop := X.2.2.2.2.2.2.2.2.2.2.2.2
def V (X : CX) (G : GG) (T : List Sh) (σ : Sg) (L : List (Option Value)) (st : List Value) (pc : Nat) : Prop :=
  ∀ (H : Heap) (locs : List Loc) (ls : Array Slot), Pic G T σ H → va_S (AA G) (xs X).heap H locs → lo ls (xc X).maxLocals L → W (xp X) (xl X) (xe X) (xR X) (xs X) (xm X) (xa X) (xb X) (xM X) (xc X) H locs (xk X) (xn X) (xQ X) (F0 (xm X) pc ls st)
/-- the body that is walked: its code, class, launch, the words, what is known, its room -/
def Bd (l : Launch) (X : CX) (G : GG) (b : ByteArray) (own : String) (D : Nat) : Prop := (xp X).tables.exec = Jvm.exec ∧ (xc X).code = b ∧ (xs X).vm.findClass own = some (xm X).cls ∧ (∀ w ∈ lwg, w.before (xa X) (xs X) = true) ∧ KK G (xs X) ∧ xl X = l ∧ (D ≤ (xR X).frames ∧ 37 * D ≤ (xR X).locals) ∧ xk X ≤ (xR X).cells ∧ xn X ≤ (xR X).slots
section RW
variable {l : Launch} {X : CX} {G : GG} {T : List Sh} {σ : Sg} {L : List (Option Value)} {st : List Value} {pc : Nat} {b : ByteArray} {own : String} {D : Nat}

theorem r_iconst (B : Bd l X G b own D) {n : Int} {x : Int32} (d : decode b pc = .ok (.iconst n, 1)) (hx : Int32.ofInt n = x) (k : V X G T σ L (.int x :: st) (pc + 1)) : V X G T σ L (st) pc := fun H locs ls hP hS hl => lv_iconst B.1 B.2.1 d hx (k H locs ls hP hS hl)
theorem r_bipush (B : Bd l X G b own D) {n : Int} {x : Int32} (d : decode b pc = .ok (.bipush n, 2)) (hx : (Int8.ofInt n).toInt32 = x) (k : V X G T σ L (.int x :: st) (pc + 2)) : V X G T σ L (st) pc := fun H locs ls hP hS hl => lv_bipush B.1 B.2.1 d hx (k H locs ls hP hS hl)
theorem r_sipush (B : Bd l X G b own D) {n : Int} {x : Int32} (d : decode b pc = .ok (.sipush n, 3)) (hx : (Int16.ofInt n).toInt32 = x) (k : V X G T σ L (.int x :: st) (pc + 3)) : V X G T σ L (st) pc := fun H locs ls hP hS hl => lv_sipush B.1 B.2.1 d hx (k H locs ls hP hS hl)
theorem r_lconst (B : Bd l X G b own D) {n : Fin 2} {x : Int64} (d : decode b pc = .ok (.lconst n, 1)) (hx : Int64.ofNat (n : Nat) = x) (k : V X G T σ L (.long x :: st) (pc + 1)) : V X G T σ L (st) pc := fun H locs ls hP hS hl => lv_lconst B.1 B.2.1 d hx (k H locs ls hP hS hl)
theorem r_ldc (B : Bd l X G b own D) {i : Nat} {x : Int32} (w : Cond.constant own i x ∈ lwg) (d : decode b pc = .ok (.ldc i, 2)) (k : V X G T σ L (.int x :: st) (pc + 2)) : V X G T σ L (st) pc := fun H locs ls hP hS hl => lv_ldc B.1 B.2.1 B.2.2.1 (B.2.2.2.1 _ w) d (k H locs ls hP hS hl)
theorem r_ldc_w (B : Bd l X G b own D) {i : Nat} {x : Int32} (w : Cond.constant own i x ∈ lwg) (d : decode b pc = .ok (.ldc_w i, 3)) (k : V X G T σ L (.int x :: st) (pc + 3)) : V X G T σ L (st) pc := fun H locs ls hP hS hl => lv_ldcw B.1 B.2.1 B.2.2.1 (B.2.2.2.1 _ w) d (k H locs ls hP hS hl)
theorem r_ldc2_w (B : Bd l X G b own D) {i : Nat} {x : Int64} (w : Cond.constantLong own i x ∈ lwg) (d : decode b pc = .ok (.ldc2_w i, 3)) (k : V X G T σ L (.long x :: st) (pc + 3)) : V X G T σ L (st) pc := fun H locs ls hP hS hl => lv_ldc2 B.1 B.2.1 B.2.2.1 (B.2.2.2.1 _ w) d (k H locs ls hP hS hl)
theorem r_iload_n (B : Bd l X G b own D) {n : Fin 4} {x : Int32} (d : decode b pc = .ok (.iload_n n, 1)) (hL : L[(n : Nat)]? = some (some (.int x))) (k : V X G T σ L (.int x :: st) (pc + 1)) : V X G T σ L (st) pc := fun H locs ls hP hS hl => lv_iload_n B.1 B.2.1 d rfl (hl.2.2 _ _ hL) (k H locs ls hP hS hl)
theorem r_iload (B : Bd l X G b own D) {n : Nat} {x : Int32} (d : decode b pc = .ok (.iload n, 2)) (hL : L[n]? = some (some (.int x))) (k : V X G T σ L (.int x :: st) (pc + 2)) : V X G T σ L (st) pc := fun H locs ls hP hS hl => lv_iload B.1 B.2.1 d (hl.2.2 _ _ hL) (k H locs ls hP hS hl)
theorem r_lload_n (B : Bd l X G b own D) {n : Fin 4} {x : Int64} (d : decode b pc = .ok (.lload_n n, 1)) (hL : L[(n : Nat)]? = some (some (.long x))) (k : V X G T σ L (.long x :: st) (pc + 1)) : V X G T σ L (st) pc := fun H locs ls hP hS hl => lv_lload_n B.1 B.2.1 d rfl (hl.2.2 _ _ hL) (k H locs ls hP hS hl)
theorem r_lload (B : Bd l X G b own D) {n : Nat} {x : Int64} (d : decode b pc = .ok (.lload n, 2)) (hL : L[n]? = some (some (.long x))) (k : V X G T σ L (.long x :: st) (pc + 2)) : V X G T σ L (st) pc := fun H locs ls hP hS hl => lv_lload B.1 B.2.1 d (hl.2.2 _ _ hL) (k H locs ls hP hS hl)
theorem r_aload_n (B : Bd l X G b own D) {n : Fin 4} {x : Nat} (d : decode b pc = .ok (.aload_n n, 1)) (hL : L[(n : Nat)]? = some (some (.ref x))) (k : V X G T σ L (.ref x :: st) (pc + 1)) : V X G T σ L (st) pc := fun H locs ls hP hS hl => lv_aload_n B.1 B.2.1 d rfl (hl.2.2 _ _ hL) (k H locs ls hP hS hl)
theorem r_aload (B : Bd l X G b own D) {n : Nat} {x : Nat} (d : decode b pc = .ok (.aload n, 2)) (hL : L[n]? = some (some (.ref x))) (k : V X G T σ L (.ref x :: st) (pc + 2)) : V X G T σ L (st) pc := fun H locs ls hP hS hl => lv_aload B.1 B.2.1 d (hl.2.2 _ _ hL) (k H locs ls hP hS hl)
theorem r_iadd (B : Bd l X G b own D) {x y : Int32} (d : decode b pc = .ok (.iadd, 1)) (k : V X G T σ L (.int (x + y) :: st) (pc + 1)) : V X G T σ L (.int y :: .int x :: st) pc := fun H locs ls hP hS hl => lv_iadd B.1 B.2.1 d  (k H locs ls hP hS hl)
theorem r_isub (B : Bd l X G b own D) {x y : Int32} (d : decode b pc = .ok (.isub, 1)) (k : V X G T σ L (.int (x - y) :: st) (pc + 1)) : V X G T σ L (.int y :: .int x :: st) pc := fun H locs ls hP hS hl => lv_isub B.1 B.2.1 d  (k H locs ls hP hS hl)
theorem r_imul (B : Bd l X G b own D) {x y : Int32} (d : decode b pc = .ok (.imul, 1)) (k : V X G T σ L (.int (x * y) :: st) (pc + 1)) : V X G T σ L (.int y :: .int x :: st) pc := fun H locs ls hP hS hl => lv_imul B.1 B.2.1 d  (k H locs ls hP hS hl)
theorem r_iand (B : Bd l X G b own D) {x y : Int32} (d : decode b pc = .ok (.iand, 1)) (k : V X G T σ L (.int (x &&& y) :: st) (pc + 1)) : V X G T σ L (.int y :: .int x :: st) pc := fun H locs ls hP hS hl => lv_iand B.1 B.2.1 d  (k H locs ls hP hS hl)
theorem r_ior (B : Bd l X G b own D) {x y : Int32} (d : decode b pc = .ok (.ior, 1)) (k : V X G T σ L (.int (x ||| y) :: st) (pc + 1)) : V X G T σ L (.int y :: .int x :: st) pc := fun H locs ls hP hS hl => lv_ior B.1 B.2.1 d  (k H locs ls hP hS hl)
theorem r_ixor (B : Bd l X G b own D) {x y : Int32} (d : decode b pc = .ok (.ixor, 1)) (k : V X G T σ L (.int (x ^^^ y) :: st) (pc + 1)) : V X G T σ L (.int y :: .int x :: st) pc := fun H locs ls hP hS hl => lv_ixor B.1 B.2.1 d  (k H locs ls hP hS hl)
theorem r_ishl (B : Bd l X G b own D) {x y : Int32} (d : decode b pc = .ok (.ishl, 1)) (k : V X G T σ L (.int (x <<< (y &&& 31)) :: st) (pc + 1)) : V X G T σ L (.int y :: .int x :: st) pc := fun H locs ls hP hS hl => lv_ishl B.1 B.2.1 d  (k H locs ls hP hS hl)
theorem r_ishr (B : Bd l X G b own D) {x y : Int32} (d : decode b pc = .ok (.ishr, 1)) (k : V X G T σ L (.int (x >>> (y &&& 31)) :: st) (pc + 1)) : V X G T σ L (.int y :: .int x :: st) pc := fun H locs ls hP hS hl => lv_ishr B.1 B.2.1 d  (k H locs ls hP hS hl)
theorem r_ladd (B : Bd l X G b own D) {x y : Int64} (d : decode b pc = .ok (.ladd, 1)) (k : V X G T σ L (.long (x + y) :: st) (pc + 1)) : V X G T σ L (.long y :: .long x :: st) pc := fun H locs ls hP hS hl => lv_ladd B.1 B.2.1 d  (k H locs ls hP hS hl)
theorem r_lsub (B : Bd l X G b own D) {x y : Int64} (d : decode b pc = .ok (.lsub, 1)) (k : V X G T σ L (.long (x - y) :: st) (pc + 1)) : V X G T σ L (.long y :: .long x :: st) pc := fun H locs ls hP hS hl => lv_lsub B.1 B.2.1 d  (k H locs ls hP hS hl)
theorem r_lmul (B : Bd l X G b own D) {x y : Int64} (d : decode b pc = .ok (.lmul, 1)) (k : V X G T σ L (.long (x * y) :: st) (pc + 1)) : V X G T σ L (.long y :: .long x :: st) pc := fun H locs ls hP hS hl => lv_lmul B.1 B.2.1 d  (k H locs ls hP hS hl)
theorem r_idiv (B : Bd l X G b own D) {x y : Int32} (hne : ¬ y = 0) (d : decode b pc = .ok (.idiv, 1)) (k : V X G T σ L (.int (x / y) :: st) (pc + 1)) : V X G T σ L (.int y :: .int x :: st) pc := fun H locs ls hP hS hl => lv_idiv B.1 B.2.1 d hne (k H locs ls hP hS hl)
theorem r_irem (B : Bd l X G b own D) {x y : Int32} (hne : ¬ y = 0) (d : decode b pc = .ok (.irem, 1)) (k : V X G T σ L (.int (x - x / y * y) :: st) (pc + 1)) : V X G T σ L (.int y :: .int x :: st) pc := fun H locs ls hP hS hl => lv_irem B.1 B.2.1 d hne (k H locs ls hP hS hl)
theorem r_ldiv (B : Bd l X G b own D) {x y : Int64} (hne : ¬ y = 0) (d : decode b pc = .ok (.ldiv, 1)) (k : V X G T σ L (.long (x / y) :: st) (pc + 1)) : V X G T σ L (.long y :: .long x :: st) pc := fun H locs ls hP hS hl => lv_ldiv B.1 B.2.1 d hne (k H locs ls hP hS hl)
theorem r_lrem (B : Bd l X G b own D) {x y : Int64} (hne : ¬ y = 0) (d : decode b pc = .ok (.lrem, 1)) (k : V X G T σ L (.long (x - x / y * y) :: st) (pc + 1)) : V X G T σ L (.long y :: .long x :: st) pc := fun H locs ls hP hS hl => lv_lrem B.1 B.2.1 d hne (k H locs ls hP hS hl)
theorem r_iushr (B : Bd l X G b own D) {x y : Int32} (d : decode b pc = .ok (.iushr, 1)) (k : V X G T σ L (.int (x.toUInt32 >>> (y.toUInt32 &&& Int32.toUInt32 31)).toInt32 :: st) (pc + 1)) : V X G T σ L (.int y :: .int x :: st) pc := fun H locs ls hP hS hl => lv_iushr B.1 B.2.1 d rfl (k H locs ls hP hS hl)
theorem r_i2l (B : Bd l X G b own D) {x : Int32} (d : decode b pc = .ok (.i2l, 1)) (k : V X G T σ L (.long x.toInt64 :: st) (pc + 1)) : V X G T σ L (.int x :: st) pc := fun H locs ls hP hS hl => lv_i2l B.1 B.2.1 d rfl (k H locs ls hP hS hl)
theorem r_i2b (B : Bd l X G b own D) {x : Int32} (d : decode b pc = .ok (.i2b, 1)) (k : V X G T σ L (.int x.toInt8.toInt32 :: st) (pc + 1)) : V X G T σ L (.int x :: st) pc := fun H locs ls hP hS hl => lv_i2b B.1 B.2.1 d rfl (k H locs ls hP hS hl)
theorem r_i2s (B : Bd l X G b own D) {x : Int32} (d : decode b pc = .ok (.i2s, 1)) (k : V X G T σ L (.int x.toInt16.toInt32 :: st) (pc + 1)) : V X G T σ L (.int x :: st) pc := fun H locs ls hP hS hl => lv_i2s B.1 B.2.1 d rfl (k H locs ls hP hS hl)
theorem r_lcmp (B : Bd l X G b own D) {x y : Int64} (d : decode b pc = .ok (.lcmp, 1)) (k : V X G T σ L (.int (lg_cmp x y) :: st) (pc + 1)) : V X G T σ L (.long y :: .long x :: st) pc := fun H locs ls hP hS hl => W.lcmp B.1 B.2.1 d  (k H locs ls hP hS hl)
theorem r_dup (B : Bd l X G b own D) {x : Value} (hc : x.category = 1) (d : decode b pc = .ok (.dup, 1)) (k : V X G T σ L (x :: x :: st) (pc + 1)) : V X G T σ L (x :: st) pc := fun H locs ls hP hS hl => lv_dup B.1 B.2.1 d hc (k H locs ls hP hS hl)
theorem r_pop (B : Bd l X G b own D) {x : Value} (hc : x.category = 1) (d : decode b pc = .ok (.pop, 1)) (k : V X G T σ L (st) (pc + 1)) : V X G T σ L (x :: st) pc := fun H locs ls hP hS hl => lv_pop B.1 B.2.1 d hc (k H locs ls hP hS hl)
theorem r_dup2 (B : Bd l X G b own D) {x y : Value} (hx : x.category = 1) (hy : y.category = 1) (d : decode b pc = .ok (.dup2, 1)) (k : V X G T σ L (x :: y :: x :: y :: st) (pc + 1)) : V X G T σ L (x :: y :: st) pc := fun H locs ls hP hS hl => lv_dup2_11 B.1 B.2.1 d hx hy (k H locs ls hP hS hl)
end RW
