theorem zI_toInt {k : Int} (h1 : -2147483648 ≤ k) (h2 : k < 2147483648) : (zI k).toInt = k := by
  unfold zI
  rw [Int32.toInt_ofInt]
  simp only [Int.bmod, Int32.size]
  omega
/-! ===== THE PURE MACHINE RUN: a block of instructions at a time ===== -/
noncomputable def zrunN (M : zM) (own rt : Nat) (code : ByteArray) : Nat → zS → Option zA
  | 0, s => zruns M own rt code s
  | n + 1, s => match zstep M own rt code s with
    | some (.inl (false, s')) => zrunN M own rt code n s'
    | some (.inl (true, s')) => zruns M own rt code s'
    | some (.inr r) => some r
    | none => none
theorem zruns_N (n : Nat) (M : zM) (own rt : Nat) (code : ByteArray) (s : zS) : zruns M own rt code s = zrunN M own rt code n s := by
  induction n generalizing s with
  | zero => rfl
  | succ n ih =>
    rw [zruns_step]
    simp only [zrunN]
    cases zstep M own rt code s with
    | none => rfl
    | some x =>
      cases x with
      | inr r => rfl
      | inl q =>
        obtain ⟨b, s'⟩ := q
        cases b with
        | true => rfl
        | false => exact ih s'
def zbnd (o : zO) (F G : zS → Option zA) : Option zA := match o with
  | some (.inl (false, s')) => F s'
  | some (.inl (true, s')) => G s'
  | some (.inr r) => some r
  | none => none
theorem zrunN_s (M : zM) (own rt : Nat) (code : ByteArray) (n : Nat) (s : zS) : zrunN M own rt code (n + 1) s = zbnd (zstep M own rt code s) (zrunN M own rt code n) (zruns M own rt code) := by
  simp only [zrunN, zbnd]
theorem zstep_i {M : zM} {own rt : Nat} {code : ByteArray} {pc len : Nat} {i : Instr} {L : zLoc} {st : List Value} {w : zW} (hd : decode code pc = .ok (i, len)) (hl : zlenOk i len = true) : zstep M own rt code (pc, L, st, w) = zins M own rt i pc L st w := by
  unfold zstep
  dsimp only
  rw [hd]
  dsimp only
  rw [if_pos hl]
section ZF
variable {M : zM} {own rt n pc : Nat} {code : ByteArray} {L L1 : zLoc} {st : List Value} {w : zW}
noncomputable abbrev zX (M : zM) (own rt : Nat) (code : ByteArray) (n pc : Nat) (L : zLoc) (st : List Value) (w : zW) : Option zA := zrunN M own rt code n (pc, L, st, w)
theorem zf {len : Nat} {i : Instr} {r : Option zA} (hd : decode code pc = .ok (i, len)) (hl : zlenOk i len = true) (h : zbnd (zins M own rt i pc L st w) (zrunN M own rt code n) (zruns M own rt code) = r) : zrunN M own rt code (n + 1) (pc, L, st, w) = r := by
  rw [zrunN_s, zstep_i hd hl]
  exact h
theorem zf_iload_n {k : Fin 4} {x : Int32} (hd : decode code pc = .ok (.iload_n k, 1)) (h : zld L k.val = some (.int x)) : zrunN M own rt code (n + 1) (pc, L, st, w) = zrunN M own rt code n (pc + 1, L, .int x :: st, w) := zf hd rfl (by simp only [zins, zlod, h, if_true]; rfl)
theorem zf_istore_n {k : Fin 4} {x : Int32} (hd : decode code pc = .ok (.istore_n k, 1)) (h : zst1 L k.val (.int x) = some L1) : zrunN M own rt code (n + 1) (pc, L, .int x :: st, w) = zrunN M own rt code n (pc + 1, L1, st, w) := zf hd rfl (by simp only [zins, zsto, h, if_true]; rfl)
theorem zf_iload {k : Nat} {x : Int32} (hd : decode code pc = .ok (.iload k, 2)) (h : zld L k = some (.int x)) : zrunN M own rt code (n + 1) (pc, L, st, w) = zrunN M own rt code n (pc + 2, L, .int x :: st, w) := zf hd rfl (by simp only [zins, zlod, h, if_true]; rfl)
theorem zf_istore {k : Nat} {x : Int32} (hd : decode code pc = .ok (.istore k, 2)) (h : zst1 L k (.int x) = some L1) : zrunN M own rt code (n + 1) (pc, L, .int x :: st, w) = zrunN M own rt code n (pc + 2, L1, st, w) := zf hd rfl (by simp only [zins, zsto, h, if_true]; rfl)
theorem zf_lload_n {k : Fin 4} {x : Int64} (hd : decode code pc = .ok (.lload_n k, 1)) (h : zld L k.val = some (.long x)) : zrunN M own rt code (n + 1) (pc, L, st, w) = zrunN M own rt code n (pc + 1, L, .long x :: st, w) := zf hd rfl (by simp only [zins, zlod, h, if_true]; rfl)
theorem zf_lstore_n {k : Fin 4} {x : Int64} (hd : decode code pc = .ok (.lstore_n k, 1)) (h : zst2 L k.val (.long x) = some L1) : zrunN M own rt code (n + 1) (pc, L, .long x :: st, w) = zrunN M own rt code n (pc + 1, L1, st, w) := zf hd rfl (by simp only [zins, zsto, h, if_true]; rfl)
theorem zf_lload {k : Nat} {x : Int64} (hd : decode code pc = .ok (.lload k, 2)) (h : zld L k = some (.long x)) : zrunN M own rt code (n + 1) (pc, L, st, w) = zrunN M own rt code n (pc + 2, L, .long x :: st, w) := zf hd rfl (by simp only [zins, zlod, h, if_true]; rfl)
theorem zf_lstore {k : Nat} {x : Int64} (hd : decode code pc = .ok (.lstore k, 2)) (h : zst2 L k (.long x) = some L1) : zrunN M own rt code (n + 1) (pc, L, .long x :: st, w) = zrunN M own rt code n (pc + 2, L1, st, w) := zf hd rfl (by simp only [zins, zsto, h, if_true]; rfl)
theorem zf_fload_n {k : Fin 4} {x : UInt32} (hd : decode code pc = .ok (.fload_n k, 1)) (h : zld L k.val = some (.float x)) : zrunN M own rt code (n + 1) (pc, L, st, w) = zrunN M own rt code n (pc + 1, L, .float x :: st, w) := zf hd rfl (by simp only [zins, zlod, h, if_true]; rfl)
theorem zf_fstore_n {k : Fin 4} {x : UInt32} (hd : decode code pc = .ok (.fstore_n k, 1)) (h : zst1 L k.val (.float x) = some L1) : zrunN M own rt code (n + 1) (pc, L, .float x :: st, w) = zrunN M own rt code n (pc + 1, L1, st, w) := zf hd rfl (by simp only [zins, zsto, h, if_true]; rfl)
theorem zf_fload {k : Nat} {x : UInt32} (hd : decode code pc = .ok (.fload k, 2)) (h : zld L k = some (.float x)) : zrunN M own rt code (n + 1) (pc, L, st, w) = zrunN M own rt code n (pc + 2, L, .float x :: st, w) := zf hd rfl (by simp only [zins, zlod, h, if_true]; rfl)
theorem zf_fstore {k : Nat} {x : UInt32} (hd : decode code pc = .ok (.fstore k, 2)) (h : zst1 L k (.float x) = some L1) : zrunN M own rt code (n + 1) (pc, L, .float x :: st, w) = zrunN M own rt code n (pc + 2, L1, st, w) := zf hd rfl (by simp only [zins, zsto, h, if_true]; rfl)
theorem zf_dload_n {k : Fin 4} {x : UInt64} (hd : decode code pc = .ok (.dload_n k, 1)) (h : zld L k.val = some (.double x)) : zrunN M own rt code (n + 1) (pc, L, st, w) = zrunN M own rt code n (pc + 1, L, .double x :: st, w) := zf hd rfl (by simp only [zins, zlod, h, if_true]; rfl)
theorem zf_dstore_n {k : Fin 4} {x : UInt64} (hd : decode code pc = .ok (.dstore_n k, 1)) (h : zst2 L k.val (.double x) = some L1) : zrunN M own rt code (n + 1) (pc, L, .double x :: st, w) = zrunN M own rt code n (pc + 1, L1, st, w) := zf hd rfl (by simp only [zins, zsto, h, if_true]; rfl)
theorem zf_dload {k : Nat} {x : UInt64} (hd : decode code pc = .ok (.dload k, 2)) (h : zld L k = some (.double x)) : zrunN M own rt code (n + 1) (pc, L, st, w) = zrunN M own rt code n (pc + 2, L, .double x :: st, w) := zf hd rfl (by simp only [zins, zlod, h, if_true]; rfl)
theorem zf_dstore {k : Nat} {x : UInt64} (hd : decode code pc = .ok (.dstore k, 2)) (h : zst2 L k (.double x) = some L1) : zrunN M own rt code (n + 1) (pc, L, .double x :: st, w) = zrunN M own rt code n (pc + 2, L1, st, w) := zf hd rfl (by simp only [zins, zsto, h, if_true]; rfl)
theorem zf_aload_n {k : Fin 4} {x : Nat} (hd : decode code pc = .ok (.aload_n k, 1)) (h : zld L k.val = some (.ref x)) : zrunN M own rt code (n + 1) (pc, L, st, w) = zrunN M own rt code n (pc + 1, L, .ref x :: st, w) := zf hd rfl (by simp only [zins, zlod, h, if_true]; rfl)
theorem zf_astore_n {k : Fin 4} {x : Nat} (hd : decode code pc = .ok (.astore_n k, 1)) (h : zst1 L k.val (.ref x) = some L1) : zrunN M own rt code (n + 1) (pc, L, .ref x :: st, w) = zrunN M own rt code n (pc + 1, L1, st, w) := zf hd rfl (by simp only [zins, zsto, h, if_true]; rfl)
theorem zf_aload {k : Nat} {x : Nat} (hd : decode code pc = .ok (.aload k, 2)) (h : zld L k = some (.ref x)) : zrunN M own rt code (n + 1) (pc, L, st, w) = zrunN M own rt code n (pc + 2, L, .ref x :: st, w) := zf hd rfl (by simp only [zins, zlod, h, if_true]; rfl)
theorem zf_astore {k : Nat} {x : Nat} (hd : decode code pc = .ok (.astore k, 2)) (h : zst1 L k (.ref x) = some L1) : zrunN M own rt code (n + 1) (pc, L, .ref x :: st, w) = zrunN M own rt code n (pc + 2, L1, st, w) := zf hd rfl (by simp only [zins, zsto, h, if_true]; rfl)
theorem zf_iinc {k : Nat} {j : Int} {x : Int32} (hd : decode code pc = .ok (.iinc k j, 3)) (h : zld L k = some (.int x)) (h1 : zst1 L k (.int (x + zI j)) = some L1) : zrunN M own rt code (n + 1) (pc, L, st, w) = zrunN M own rt code n (pc + 3, L1, st, w) := zf hd rfl (by simp only [zins, h, h1]; rfl)
theorem zf_iconst {j : Int} (hd : decode code pc = .ok (.iconst j, 1)) : zrunN M own rt code (n + 1) (pc, L, st, w) = zrunN M own rt code n (pc + 1, L, .int (zI j) :: st, w) := zf hd rfl (by rfl)
theorem zf_bipush {j : Int} (hd : decode code pc = .ok (.bipush j, 2)) (h : -128 ≤ j ∧ j < 128) : zrunN M own rt code (n + 1) (pc, L, st, w) = zrunN M own rt code n (pc + 2, L, .int (zI j) :: st, w) := zf hd rfl (by simp only [zins, if_pos h]; rfl)
theorem zf_sipush {j : Int} (hd : decode code pc = .ok (.sipush j, 3)) (h : -32768 ≤ j ∧ j < 32768) : zrunN M own rt code (n + 1) (pc, L, st, w) = zrunN M own rt code n (pc + 3, L, .int (zI j) :: st, w) := zf hd rfl (by simp only [zins, if_pos h]; rfl)
theorem zf_lconst {j : Fin 2} (hd : decode code pc = .ok (.lconst j, 1)) : zrunN M own rt code (n + 1) (pc, L, st, w) = zrunN M own rt code n (pc + 1, L, .long (zL j.val) :: st, w) := zf hd rfl (by rfl)
theorem zf_fconst0  (hd : decode code pc = .ok (.fconst 0, 1)) : zrunN M own rt code (n + 1) (pc, L, st, w) = zrunN M own rt code n (pc + 1, L, .float FP.fconst0 :: st, w) := zf hd rfl (by rfl)
theorem zf_fconst1  (hd : decode code pc = .ok (.fconst 1, 1)) : zrunN M own rt code (n + 1) (pc, L, st, w) = zrunN M own rt code n (pc + 1, L, .float FP.fconst1 :: st, w) := zf hd rfl (by rfl)
theorem zf_dconst0  (hd : decode code pc = .ok (.dconst 0, 1)) : zrunN M own rt code (n + 1) (pc, L, st, w) = zrunN M own rt code n (pc + 1, L, .double FP.dconst0 :: st, w) := zf hd rfl (by rfl)
theorem zf_dconst1  (hd : decode code pc = .ok (.dconst 1, 1)) : zrunN M own rt code (n + 1) (pc, L, st, w) = zrunN M own rt code n (pc + 1, L, .double FP.dconst1 :: st, w) := zf hd rfl (by rfl)
theorem zf_ldc_int {k : Nat} {v : Int32} (hd : decode code pc = .ok (.ldc k, 2)) (h : zcon own k = some (.int v)) : zrunN M own rt code (n + 1) (pc, L, st, w) = zrunN M own rt code n (pc + 2, L, .int v :: st, w) := zf hd rfl (by simp only [zins, h]; rfl)
theorem zf_ldc_float {k : Nat} {v : UInt32} (hd : decode code pc = .ok (.ldc k, 2)) (h : zcon own k = some (.float v)) : zrunN M own rt code (n + 1) (pc, L, st, w) = zrunN M own rt code n (pc + 2, L, .float v :: st, w) := zf hd rfl (by simp only [zins, h]; rfl)
theorem zf_ldc_w_int {k : Nat} {v : Int32} (hd : decode code pc = .ok (.ldc_w k, 3)) (h : zcon own k = some (.int v)) : zrunN M own rt code (n + 1) (pc, L, st, w) = zrunN M own rt code n (pc + 3, L, .int v :: st, w) := zf hd rfl (by simp only [zins, h]; rfl)
theorem zf_ldc_w_float {k : Nat} {v : UInt32} (hd : decode code pc = .ok (.ldc_w k, 3)) (h : zcon own k = some (.float v)) : zrunN M own rt code (n + 1) (pc, L, st, w) = zrunN M own rt code n (pc + 3, L, .float v :: st, w) := zf hd rfl (by simp only [zins, h]; rfl)
theorem zf_ldc2_w_long {k : Nat} {v : Int64} (hd : decode code pc = .ok (.ldc2_w k, 3)) (h : zcon own k = some (.long v)) : zrunN M own rt code (n + 1) (pc, L, st, w) = zrunN M own rt code n (pc + 3, L, .long v :: st, w) := zf hd rfl (by simp only [zins, h]; rfl)
theorem zf_ldc2_w_double {k : Nat} {v : UInt64} (hd : decode code pc = .ok (.ldc2_w k, 3)) (h : zcon own k = some (.double v)) : zrunN M own rt code (n + 1) (pc, L, st, w) = zrunN M own rt code n (pc + 3, L, .double v :: st, w) := zf hd rfl (by simp only [zins, h]; rfl)
theorem zf_iadd {x y : Int32} (hd : decode code pc = .ok (.iadd, 1)) : zrunN M own rt code (n + 1) (pc, L, .int y :: .int x :: st, w) = zrunN M own rt code n (pc + 1, L, .int (x + y) :: st, w) := zf hd rfl (by rfl)
theorem zf_isub {x y : Int32} (hd : decode code pc = .ok (.isub, 1)) : zrunN M own rt code (n + 1) (pc, L, .int y :: .int x :: st, w) = zrunN M own rt code n (pc + 1, L, .int (x - y) :: st, w) := zf hd rfl (by rfl)
theorem zf_imul {x y : Int32} (hd : decode code pc = .ok (.imul, 1)) : zrunN M own rt code (n + 1) (pc, L, .int y :: .int x :: st, w) = zrunN M own rt code n (pc + 1, L, .int (x * y) :: st, w) := zf hd rfl (by rfl)
theorem zf_iand {x y : Int32} (hd : decode code pc = .ok (.iand, 1)) : zrunN M own rt code (n + 1) (pc, L, .int y :: .int x :: st, w) = zrunN M own rt code n (pc + 1, L, .int (x &&& y) :: st, w) := zf hd rfl (by rfl)
theorem zf_ior {x y : Int32} (hd : decode code pc = .ok (.ior, 1)) : zrunN M own rt code (n + 1) (pc, L, .int y :: .int x :: st, w) = zrunN M own rt code n (pc + 1, L, .int (x ||| y) :: st, w) := zf hd rfl (by rfl)
theorem zf_ishl {x y : Int32} (hd : decode code pc = .ok (.ishl, 1)) : zrunN M own rt code (n + 1) (pc, L, .int y :: .int x :: st, w) = zrunN M own rt code n (pc + 1, L, .int (x <<< (y &&& 31)) :: st, w) := zf hd rfl (by rfl)
/-- a divisor is no 0 -/
def zdv (y : Int32) (r : Option zA) : Option zA := if y = 0 then none else r
def zdl (y : Int64) (r : Option zA) : Option zA := if y = 0 then none else r
theorem zf_idiv {x y : Int32} (hd : decode code pc = .ok (.idiv, 1)) : zrunN M own rt code (n + 1) (pc, L, .int y :: .int x :: st, w) = zdv y (zrunN M own rt code n (pc + 1, L, .int (x / y) :: st, w)) := zf hd rfl (by by_cases h : y = 0 <;> simp [zins, zii, zdv, h, zbnd, zgo])
theorem zf_irem {x y : Int32} (hd : decode code pc = .ok (.irem, 1)) : zrunN M own rt code (n + 1) (pc, L, .int y :: .int x :: st, w) = zdv y (zrunN M own rt code n (pc + 1, L, .int (x - x / y * y) :: st, w)) := zf hd rfl (by by_cases h : y = 0 <;> simp [zins, zii, zdv, h, zbnd, zgo])
theorem zf_ldiv {x y : Int64} (hd : decode code pc = .ok (.ldiv, 1)) : zrunN M own rt code (n + 1) (pc, L, .long y :: .long x :: st, w) = zdl y (zrunN M own rt code n (pc + 1, L, .long (x / y) :: st, w)) := zf hd rfl (by by_cases h : y = 0 <;> simp [zins, zjj, zdl, h, zbnd, zgo])
theorem zf_lrem {x y : Int64} (hd : decode code pc = .ok (.lrem, 1)) : zrunN M own rt code (n + 1) (pc, L, .long y :: .long x :: st, w) = zdl y (zrunN M own rt code n (pc + 1, L, .long (x - x / y * y) :: st, w)) := zf hd rfl (by by_cases h : y = 0 <;> simp [zins, zjj, zdl, h, zbnd, zgo])
theorem zf_ineg {x : Int32} (hd : decode code pc = .ok (.ineg, 1)) : zrunN M own rt code (n + 1) (pc, L, .int x :: st, w) = zrunN M own rt code n (pc + 1, L, .int (-x) :: st, w) := zf hd rfl (by rfl)
theorem zf_lmul {x y : Int64} (hd : decode code pc = .ok (.lmul, 1)) : zrunN M own rt code (n + 1) (pc, L, .long y :: .long x :: st, w) = zrunN M own rt code n (pc + 1, L, .long (x * y) :: st, w) := zf hd rfl (by rfl)
theorem zf_land {x y : Int64} (hd : decode code pc = .ok (.land, 1)) : zrunN M own rt code (n + 1) (pc, L, .long y :: .long x :: st, w) = zrunN M own rt code n (pc + 1, L, .long (x &&& y) :: st, w) := zf hd rfl (by rfl)
theorem zf_lor {x y : Int64} (hd : decode code pc = .ok (.lor, 1)) : zrunN M own rt code (n + 1) (pc, L, .long y :: .long x :: st, w) = zrunN M own rt code n (pc + 1, L, .long (x ||| y) :: st, w) := zf hd rfl (by rfl)
theorem zf_lcmp {x y : Int64} (hd : decode code pc = .ok (.lcmp, 1)) : zrunN M own rt code (n + 1) (pc, L, .long y :: .long x :: st, w) = zrunN M own rt code n (pc + 1, L, .int (lg_cmp x y) :: st, w) := zf hd rfl (by rfl)
theorem zf_lshl {x : Int64} {y : Int32} (hd : decode code pc = .ok (.lshl, 1)) : zrunN M own rt code (n + 1) (pc, L, .int y :: .long x :: st, w) = zrunN M own rt code n (pc + 1, L, .long (x <<< (y.toInt64 &&& 63)) :: st, w) := zf hd rfl (by rfl)
theorem zf_lshr {x : Int64} {y : Int32} (hd : decode code pc = .ok (.lshr, 1)) : zrunN M own rt code (n + 1) (pc, L, .int y :: .long x :: st, w) = zrunN M own rt code n (pc + 1, L, .long (x >>> (y.toInt64 &&& 63)) :: st, w) := zf hd rfl (by rfl)
theorem zf_lushr {x : Int64} {y : Int32} (hd : decode code pc = .ok (.lushr, 1)) : zrunN M own rt code (n + 1) (pc, L, .int y :: .long x :: st, w) = zrunN M own rt code n (pc + 1, L, .long ((x.toUInt64 >>> (y.toInt64.toUInt64 &&& Int64.toUInt64 63)).toInt64) :: st, w) := zf hd rfl (by rfl)
/-- no NaN comes -/
def zNN (x : UInt32) : Prop := x &&& 0x7fffffff ≤ 0x7f800000
def zND (x : UInt64) : Prop := x &&& 0x7fffffffffffffff ≤ 0x7ff0000000000000
def zkf (x : UInt32) (r : Option zA) : Option zA := if x &&& 0x7fffffff ≤ 0x7f800000 then r else none
def zkd (x : UInt64) (r : Option zA) : Option zA := if x &&& 0x7fffffffffffffff ≤ 0x7ff0000000000000 then r else none
theorem zkf_ok {x : UInt32} {r : Option zA} (h : zNN x) : zkf x r = r := if_pos h
theorem zkd_ok {x : UInt64} {r : Option zA} (h : zND x) : zkd x r = r := if_pos h
theorem zf_fadd {x y : UInt32} (hd : decode code pc = .ok (.fadd, 1)) : zrunN M own rt code (n + 1) (pc, L, .float y :: .float x :: st, w) = zkf (FP.fadd x y) (zrunN M own rt code n (pc + 1, L, .float (FP.fadd x y) :: st, w)) := zf hd rfl (by by_cases h : FP.fadd x y &&& 0x7fffffff ≤ 0x7f800000 <;> simp [zins, zff, znf, zkf, h, zbnd, zgo])
theorem zf_fsub {x y : UInt32} (hd : decode code pc = .ok (.fsub, 1)) : zrunN M own rt code (n + 1) (pc, L, .float y :: .float x :: st, w) = zkf (FP.fsub x y) (zrunN M own rt code n (pc + 1, L, .float (FP.fsub x y) :: st, w)) := zf hd rfl (by by_cases h : FP.fsub x y &&& 0x7fffffff ≤ 0x7f800000 <;> simp [zins, zff, znf, zkf, h, zbnd, zgo])
theorem zf_fmul {x y : UInt32} (hd : decode code pc = .ok (.fmul, 1)) : zrunN M own rt code (n + 1) (pc, L, .float y :: .float x :: st, w) = zkf (FP.fmul x y) (zrunN M own rt code n (pc + 1, L, .float (FP.fmul x y) :: st, w)) := zf hd rfl (by by_cases h : FP.fmul x y &&& 0x7fffffff ≤ 0x7f800000 <;> simp [zins, zff, znf, zkf, h, zbnd, zgo])
theorem zf_fdiv {x y : UInt32} (hd : decode code pc = .ok (.fdiv, 1)) : zrunN M own rt code (n + 1) (pc, L, .float y :: .float x :: st, w) = zkf (FP.fdiv x y) (zrunN M own rt code n (pc + 1, L, .float (FP.fdiv x y) :: st, w)) := zf hd rfl (by by_cases h : FP.fdiv x y &&& 0x7fffffff ≤ 0x7f800000 <;> simp [zins, zff, znf, zkf, h, zbnd, zgo])
theorem zf_dsub {x y : UInt64} (hd : decode code pc = .ok (.dsub, 1)) : zrunN M own rt code (n + 1) (pc, L, .double y :: .double x :: st, w) = zkd (FP.dsub x y) (zrunN M own rt code n (pc + 1, L, .double (FP.dsub x y) :: st, w)) := zf hd rfl (by by_cases h : FP.dsub x y &&& 0x7fffffffffffffff ≤ 0x7ff0000000000000 <;> simp [zins, zdd, znd, zkd, h, zbnd, zgo])
theorem zf_dmul {x y : UInt64} (hd : decode code pc = .ok (.dmul, 1)) : zrunN M own rt code (n + 1) (pc, L, .double y :: .double x :: st, w) = zkd (FP.dmul x y) (zrunN M own rt code n (pc + 1, L, .double (FP.dmul x y) :: st, w)) := zf hd rfl (by by_cases h : FP.dmul x y &&& 0x7fffffffffffffff ≤ 0x7ff0000000000000 <;> simp [zins, zdd, znd, zkd, h, zbnd, zgo])
theorem zf_ddiv {x y : UInt64} (hd : decode code pc = .ok (.ddiv, 1)) : zrunN M own rt code (n + 1) (pc, L, .double y :: .double x :: st, w) = zkd (FP.ddiv x y) (zrunN M own rt code n (pc + 1, L, .double (FP.ddiv x y) :: st, w)) := zf hd rfl (by by_cases h : FP.ddiv x y &&& 0x7fffffffffffffff ≤ 0x7ff0000000000000 <;> simp [zins, zdd, znd, zkd, h, zbnd, zgo])
theorem zf_f2d {x : UInt32} (hd : decode code pc = .ok (.f2d, 1)) : zrunN M own rt code (n + 1) (pc, L, .float x :: st, w) = zkd (FP.f2d x) (zrunN M own rt code n (pc + 1, L, .double (FP.f2d x) :: st, w)) := zf hd rfl (by by_cases h : FP.f2d x &&& 0x7fffffffffffffff ≤ 0x7ff0000000000000 <;> simp [zins, zun, znd, zkd, h, zbnd, zgo])
theorem zf_fcmp {x y : UInt32} {op : CmpOp} (hd : decode code pc = .ok (.fcmp op, 1)) : zrunN M own rt code (n + 1) (pc, L, .float y :: .float x :: st, w) = zrunN M own rt code n (pc + 1, L, .int (Op.cmpValue (FP.fcmp x y) op) :: st, w) := zf hd rfl (by rfl)
theorem zf_dcmp {x y : UInt64} {op : CmpOp} (hd : decode code pc = .ok (.dcmp op, 1)) : zrunN M own rt code (n + 1) (pc, L, .double y :: .double x :: st, w) = zrunN M own rt code n (pc + 1, L, .int (Op.cmpValue (FP.dcmp x y) op) :: st, w) := zf hd rfl (by rfl)
theorem zf_i2l {x : Int32} (hd : decode code pc = .ok (.i2l, 1)) : zrunN M own rt code (n + 1) (pc, L, .int x :: st, w) = zrunN M own rt code n (pc + 1, L, .long (x.toInt64) :: st, w) := zf hd rfl (by rfl)
theorem zf_l2i {x : Int64} (hd : decode code pc = .ok (.l2i, 1)) : zrunN M own rt code (n + 1) (pc, L, .long x :: st, w) = zrunN M own rt code n (pc + 1, L, .int (x.toInt32) :: st, w) := zf hd rfl (by rfl)
theorem zf_i2b {x : Int32} (hd : decode code pc = .ok (.i2b, 1)) : zrunN M own rt code (n + 1) (pc, L, .int x :: st, w) = zrunN M own rt code n (pc + 1, L, .int (x.toInt8.toInt32) :: st, w) := zf hd rfl (by rfl)
theorem zf_i2f {x : Int32} (hd : decode code pc = .ok (.i2f, 1)) : zrunN M own rt code (n + 1) (pc, L, .int x :: st, w) = zrunN M own rt code n (pc + 1, L, .float (FP.i2f x) :: st, w) := zf hd rfl (by rfl)
theorem zf_l2f {x : Int64} (hd : decode code pc = .ok (.l2f, 1)) : zrunN M own rt code (n + 1) (pc, L, .long x :: st, w) = zrunN M own rt code n (pc + 1, L, .float (FP.l2f x) :: st, w) := zf hd rfl (by rfl)
theorem zf_l2d {x : Int64} (hd : decode code pc = .ok (.l2d, 1)) : zrunN M own rt code (n + 1) (pc, L, .long x :: st, w) = zrunN M own rt code n (pc + 1, L, .double (FP.l2d x) :: st, w) := zf hd rfl (by rfl)
theorem zf_f2i {x : UInt32} (hd : decode code pc = .ok (.f2i, 1)) : zrunN M own rt code (n + 1) (pc, L, .float x :: st, w) = zrunN M own rt code n (pc + 1, L, .int (FP.f2i x) :: st, w) := zf hd rfl (by rfl)
theorem zf_d2l {x : UInt64} (hd : decode code pc = .ok (.d2l, 1)) : zrunN M own rt code (n + 1) (pc, L, .double x :: st, w) = zrunN M own rt code n (pc + 1, L, .long (FP.d2l x) :: st, w) := zf hd rfl (by rfl)
theorem zf_dup_i {x : Int32} (hd : decode code pc = .ok (.dup, 1)) : zrunN M own rt code (n + 1) (pc, L, .int x :: st, w) = zrunN M own rt code n (pc + 1, L, .int x :: .int x :: st, w) := zf hd rfl (by rfl)
theorem zf_dup {x : Nat} (hd : decode code pc = .ok (.dup, 1)) : zrunN M own rt code (n + 1) (pc, L, .ref x :: st, w) = zrunN M own rt code n (pc + 1, L, .ref x :: .ref x :: st, w) := zf hd rfl (by rfl)
theorem zf_dup2 {x : Int32} {a : Nat} (hd : decode code pc = .ok (.dup2, 1)) : zrunN M own rt code (n + 1) (pc, L, .int x :: .ref a :: st, w) = zrunN M own rt code n (pc + 1, L, .int x :: .ref a :: .int x :: .ref a :: st, w) := zf hd rfl (by rfl)
theorem zf_pop {x : Int32} (hd : decode code pc = .ok (.pop, 1)) : zrunN M own rt code (n + 1) (pc, L, .int x :: st, w) = zrunN M own rt code n (pc + 1, L, st, w) := zf hd rfl (by rfl)
theorem zf_if_eq {x : Int32} {off : Int} {t : Nat} (hd : decode code pc = .ok (.ifCond .eq off, 3)) (ht : ztg pc off = some t) : zrunN M own rt code (n + 1) (pc, L, .int x :: st, w) = zruns M own rt code (if x = 0 then t else pc + 3, L, st, w) := zf hd rfl (by simp only [zins, zbr, ht]; rfl)
theorem zf_icmp_eq {x y : Int32} {off : Int} {t : Nat} (hd : decode code pc = .ok (.if_icmp .eq off, 3)) (ht : ztg pc off = some t) : zrunN M own rt code (n + 1) (pc, L, .int y :: .int x :: st, w) = zruns M own rt code (if x = y then t else pc + 3, L, st, w) := zf hd rfl (by simp only [zins, zbr, ht]; rfl)
theorem zf_if_ne {x : Int32} {off : Int} {t : Nat} (hd : decode code pc = .ok (.ifCond .ne off, 3)) (ht : ztg pc off = some t) : zrunN M own rt code (n + 1) (pc, L, .int x :: st, w) = zruns M own rt code (if ¬ x = 0 then t else pc + 3, L, st, w) := zf hd rfl (by simp only [zins, zbr, ht]; rfl)
theorem zf_icmp_ne {x y : Int32} {off : Int} {t : Nat} (hd : decode code pc = .ok (.if_icmp .ne off, 3)) (ht : ztg pc off = some t) : zrunN M own rt code (n + 1) (pc, L, .int y :: .int x :: st, w) = zruns M own rt code (if ¬ x = y then t else pc + 3, L, st, w) := zf hd rfl (by simp only [zins, zbr, ht]; rfl)
theorem zf_if_lt {x : Int32} {off : Int} {t : Nat} (hd : decode code pc = .ok (.ifCond .lt off, 3)) (ht : ztg pc off = some t) : zrunN M own rt code (n + 1) (pc, L, .int x :: st, w) = zruns M own rt code (if x < 0 then t else pc + 3, L, st, w) := zf hd rfl (by simp only [zins, zbr, ht]; rfl)
theorem zf_icmp_lt {x y : Int32} {off : Int} {t : Nat} (hd : decode code pc = .ok (.if_icmp .lt off, 3)) (ht : ztg pc off = some t) : zrunN M own rt code (n + 1) (pc, L, .int y :: .int x :: st, w) = zruns M own rt code (if x < y then t else pc + 3, L, st, w) := zf hd rfl (by simp only [zins, zbr, ht]; rfl)
theorem zf_if_ge {x : Int32} {off : Int} {t : Nat} (hd : decode code pc = .ok (.ifCond .ge off, 3)) (ht : ztg pc off = some t) : zrunN M own rt code (n + 1) (pc, L, .int x :: st, w) = zruns M own rt code (if 0 ≤ x then t else pc + 3, L, st, w) := zf hd rfl (by simp only [zins, zbr, ht]; rfl)
theorem zf_icmp_ge {x y : Int32} {off : Int} {t : Nat} (hd : decode code pc = .ok (.if_icmp .ge off, 3)) (ht : ztg pc off = some t) : zrunN M own rt code (n + 1) (pc, L, .int y :: .int x :: st, w) = zruns M own rt code (if y ≤ x then t else pc + 3, L, st, w) := zf hd rfl (by simp only [zins, zbr, ht]; rfl)
theorem zf_if_gt {x : Int32} {off : Int} {t : Nat} (hd : decode code pc = .ok (.ifCond .gt off, 3)) (ht : ztg pc off = some t) : zrunN M own rt code (n + 1) (pc, L, .int x :: st, w) = zruns M own rt code (if 0 < x then t else pc + 3, L, st, w) := zf hd rfl (by simp only [zins, zbr, ht]; rfl)
theorem zf_icmp_gt {x y : Int32} {off : Int} {t : Nat} (hd : decode code pc = .ok (.if_icmp .gt off, 3)) (ht : ztg pc off = some t) : zrunN M own rt code (n + 1) (pc, L, .int y :: .int x :: st, w) = zruns M own rt code (if y < x then t else pc + 3, L, st, w) := zf hd rfl (by simp only [zins, zbr, ht]; rfl)
theorem zf_if_le {x : Int32} {off : Int} {t : Nat} (hd : decode code pc = .ok (.ifCond .le off, 3)) (ht : ztg pc off = some t) : zrunN M own rt code (n + 1) (pc, L, .int x :: st, w) = zruns M own rt code (if x ≤ 0 then t else pc + 3, L, st, w) := zf hd rfl (by simp only [zins, zbr, ht]; rfl)
theorem zf_icmp_le {x y : Int32} {off : Int} {t : Nat} (hd : decode code pc = .ok (.if_icmp .le off, 3)) (ht : ztg pc off = some t) : zrunN M own rt code (n + 1) (pc, L, .int y :: .int x :: st, w) = zruns M own rt code (if x ≤ y then t else pc + 3, L, st, w) := zf hd rfl (by simp only [zins, zbr, ht]; rfl)
theorem zf_goto {off : Int} {t : Nat} (hd : decode code pc = .ok (.goto off, 3)) (ht : ztg pc off = some t) : zrunN M own rt code (n + 1) (pc, L, st, w) = zruns M own rt code (t, L, st, w) := zf hd rfl (by simp only [zins, zjump, ht]; rfl)
theorem zf_table {x : Int32} {d lo hi : Int} {offs : Array Int} {len : Nat} {T : Int → Nat} (hd : decode code pc = .ok (.tableswitch d lo hi offs, len)) (h0 : lo = 0) (hdT : ∀ k : Int, k < lo ∨ hi < k → ztg pc d = some (T k)) (hin : ∀ k : Nat, (k : Int) ≤ hi → ∃ off, offs[k]? = some off ∧ ztg pc off = some (T k)) : zrunN M own rt code (n + 1) (pc, L, .int x :: st, w) = zruns M own rt code (T x.toInt, L, st, w) := by
  refine zf hd rfl ?_
  subst h0
  simp only [zins]
  by_cases hx : x.toInt < 0 ∨ hi < x.toInt
  · rw [if_pos hx, hdT _ hx]
    rfl
  · rw [if_neg hx]
    obtain ⟨off, h1, h2⟩ := hin (x.toInt - 0).toNat (by omega)
    rw [h1]
    dsimp only
    rw [h2, show (((x.toInt - 0).toNat : Nat) : Int) = x.toInt by omega]
    rfl
theorem zf_lookup {x : Int32} {d : Int} {ps : Array (Int × Int)} {len : Nat} {T : Int → Nat} (hd : decode code pc = .ok (.lookupswitch d ps, len)) (hs : (ps.toList.zip (ps.toList.drop 1)).all (fun q => decide (q.1.1 < q.2.1)) = true) (hT : ∀ k : Int, ztg pc (Op.lookupswitch.offset ps.toList d k) = some (T k)) : zrunN M own rt code (n + 1) (pc, L, .int x :: st, w) = zruns M own rt code (T x.toInt, L, st, w) := by
  refine zf hd rfl ?_
  simp only [zins]
  rw [if_pos hs, hT]
  rfl
/-- reads and writes of cells, over what follows -/
def ygt (ci k : Nat) (c : Option zC) (K : Value → Option zA) : Option zA := match c with
  | some (.inr (d, fs)) => if d = ci then (match fs[k]? with
    | some v => K v
    | none => none) else none
  | _ => none
def ypt (ci k : Nat) (v : Value) (c : Option zC) (K : zC → Option zA) : Option zA := match c with
  | some (.inr (d, fs)) => if d = ci ∧ k < fs.length then K (.inr (ci, fs.set k v)) else none
  | _ => none
def ycl (ci : Nat) (c : Option zC) (r : Option zA) : Option zA := match c with
  | some (.inr (d, _)) => if d = ci then r else none
  | _ => none
def yil (c : Option zC) (t : Nat) (i : Int32) (K : Int32 → Option zA) : Option zA := match c with
  | some (.inl (u, n, .inl f)) => if (u = t ∨ u = 9 ∧ t = 0) ∧ zin i n = true then K (f i.toNatClampNeg) else none
  | _ => none
def yll (c : Option zC) (i : Int32) (K : Int64 → Option zA) : Option zA := match c with
  | some (.inl (u, n, .inr (.inl f))) => if u = 1 ∧ zin i n = true then K (f i.toNatClampNeg) else none
  | _ => none
def yfl (c : Option zC) (i : Int32) (K : UInt32 → Option zA) : Option zA := match c with
  | some (.inl (u, n, .inr (.inr (.inl f)))) => if u = 2 ∧ zin i n = true then K (f i.toNatClampNeg) else none
  | _ => none
def yal (c : Option zC) (i : Int32) (K : Nat → Option zA) : Option zA := match c with
  | some (.inl (u, n, .inr (.inr (.inr (.inr f))))) => if (u = 4 ∨ u = 5) ∧ zin i n = true then (match f i.toNatClampNeg with
    | some a => K a
    | none => none) else none
  | _ => none
def yis (c : Option zC) (t : Nat) (i x : Int32) (K : zC → Option zA) : Option zA := match c with
  | some (.inl (u, n, .inl f)) => if u = t ∧ zin i n = true then K (.inl (u, n, .inl (upd f i.toNatClampNeg x))) else none
  | _ => none
def yls (c : Option zC) (i : Int32) (x : Int64) (K : zC → Option zA) : Option zA := match c with
  | some (.inl (u, n, .inr (.inl f))) => if u = 1 ∧ zin i n = true then K (.inl (u, n, .inr (.inl (vp_updL f i.toNatClampNeg x)))) else none
  | _ => none
def yfs (c : Option zC) (i : Int32) (x : UInt32) (K : zC → Option zA) : Option zA := match c with
  | some (.inl (u, n, .inr (.inr (.inl f)))) => if u = 2 ∧ zin i n = true then K (.inl (u, n, .inr (.inr (.inl (vf_upd f i.toNatClampNeg x))))) else none
  | _ => none
def yas (c d : Option zC) (i : Int32) (a : Nat) (K : zC → Option zA) : Option zA := match c with
  | some (.inl (u, n, .inr (.inr (.inr (.inr f))))) => (match d with
    | some (.inr (e, _)) => if ((u = 4 ∧ e = 3) ∨ (u = 5 ∧ e = 8)) ∧ zin i n = true then K (.inl (u, n, .inr (.inr (.inr (.inr (va_up f i.toNatClampNeg (some a))))))) else none
    | _ => none)
  | _ => none
def yle (c : Option zC) (K : Nat → Option zA) : Option zA := match c with
  | some (.inl (u, n, .inl _)) => if u < 6 ∨ u = 9 then K n else none
  | some (.inl (u, n, _)) => if u < 6 then K n else none
  | _ => none
def ycp (c d : Option zC) (sp dp n : Int32) (K : zC → Option zA) : Option zA := match c, d with
  | some (.inl (u, n0, .inl f)), some (.inl (v, n1, .inl g)) => if u = 0 ∧ v = 0 ∧ 0 ≤ sp.toInt ∧ 0 ≤ dp.toInt ∧ 0 ≤ n.toInt ∧ sp.toInt + n.toInt ≤ n0 ∧ dp.toInt + n.toInt ≤ n1 then K (.inl (0, n1, .inl (va_cpy f g sp.toNatClampNeg dp.toNatClampNeg n.toNatClampNeg))) else none
  | some (.inl (u, n0, .inr (.inl f))), some (.inl (v, n1, .inr (.inl g))) => if u = 1 ∧ v = 1 ∧ 0 ≤ sp.toInt ∧ 0 ≤ dp.toInt ∧ 0 ≤ n.toInt ∧ sp.toInt + n.toInt ≤ n0 ∧ dp.toInt + n.toInt ≤ n1 then K (.inl (1, n1, .inr (.inl (va_cpy f g sp.toNatClampNeg dp.toNatClampNeg n.toNatClampNeg)))) else none
  | _, _ => none
def y0 (r : Option zA) (K : zW → Option zA) : Option zA := match r with
  | some (none, w) => K w
  | _ => none
def y1 (r : Option zA) (K : Value → zW → Option zA) : Option zA := match r with
  | some (some v, w) => K v w
  | _ => none
/-- a boolean -/
def ybo (x : Int32) (r : Option zA) : Option zA := if x = 0 ∨ x = 1 then r else none
theorem zget_y {ci k : Nat} {c : Option zC} {K : Value → zO} {F G : zS → Option zA} : zbnd (zget ci k c K) F G = ygt ci k c (fun v => zbnd (K v) F G) := by
  rcases c with _ | ⟨⟨u, n1, f | f | f | f | f⟩ | ⟨d1, fs⟩⟩ <;> simp only [zget, ygt] <;> (first | rfl | (split <;> first | rfl | (cases fs[k]? <;> rfl) | (cases f i.toNatClampNeg <;> rfl) | simp_all [zbnd]))
theorem zput_y {ci k : Nat} {v : Value} {c : Option zC} {K : zC → zO} {F G : zS → Option zA} : zbnd (zput ci k v c K) F G = ypt ci k v c (fun x => zbnd (K x) F G) := by
  rcases c with _ | ⟨⟨u, n1, f | f | f | f | f⟩ | ⟨d1, fs⟩⟩ <;> simp only [zput, ypt] <;> (first | rfl | (split <;> first | rfl | (cases fs[k]? <;> rfl) | (cases f i.toNatClampNeg <;> rfl) | simp_all [zbnd]))
theorem zil_y {c : Option zC} {t : Nat} {i : Int32} {K : Int32 → zO} {F G : zS → Option zA} : zbnd (zil c t i K) F G = yil c t i (fun x => zbnd (K x) F G) := by
  rcases c with _ | ⟨⟨u, n1, f | f | f | f | f⟩ | ⟨d1, fs⟩⟩ <;> simp only [zil, yil] <;> (first | rfl | (split <;> first | rfl | (cases fs[k]? <;> rfl) | (cases f i.toNatClampNeg <;> rfl) | simp_all [zbnd]))
theorem zll_y {c : Option zC} {i : Int32} {K : Int64 → zO} {F G : zS → Option zA} : zbnd (zll c i K) F G = yll c i (fun x => zbnd (K x) F G) := by
  rcases c with _ | ⟨⟨u, n1, f | f | f | f | f⟩ | ⟨d1, fs⟩⟩ <;> simp only [zll, yll] <;> (first | rfl | (split <;> first | rfl | (cases fs[k]? <;> rfl) | (cases f i.toNatClampNeg <;> rfl) | simp_all [zbnd]))
theorem zfll_y {c : Option zC} {i : Int32} {K : UInt32 → zO} {F G : zS → Option zA} : zbnd (zfll c i K) F G = yfl c i (fun x => zbnd (K x) F G) := by
  rcases c with _ | ⟨⟨u, n1, f | f | f | f | f⟩ | ⟨d1, fs⟩⟩ <;> simp only [zfll, yfl] <;> (first | rfl | (split <;> first | rfl | (cases fs[k]? <;> rfl) | (cases f i.toNatClampNeg <;> rfl) | simp_all [zbnd]))
theorem zal_y {c : Option zC} {i : Int32} {K : Nat → zO} {F G : zS → Option zA} : zbnd (zal c i K) F G = yal c i (fun x => zbnd (K x) F G) := by
  rcases c with _ | ⟨⟨u, n1, f | f | f | f | f⟩ | ⟨d1, fs⟩⟩ <;> simp only [zal, yal] <;> (first | rfl | (split <;> first | rfl | (cases fs[k]? <;> rfl) | (cases f i.toNatClampNeg <;> rfl) | simp_all [zbnd]))
theorem zis_y {c : Option zC} {t : Nat} {i y : Int32} {K : zC → zO} {F G : zS → Option zA} : zbnd (zis c t i y K) F G = yis c t i y (fun x => zbnd (K x) F G) := by
  rcases c with _ | ⟨⟨u, n1, f | f | f | f | f⟩ | ⟨d1, fs⟩⟩ <;> simp only [zis, yis] <;> (first | rfl | (split <;> first | rfl | (cases fs[k]? <;> rfl) | (cases f i.toNatClampNeg <;> rfl) | simp_all [zbnd]))
theorem zls_y {c : Option zC} {i : Int32} {y : Int64} {K : zC → zO} {F G : zS → Option zA} : zbnd (zls c i y K) F G = yls c i y (fun x => zbnd (K x) F G) := by
  rcases c with _ | ⟨⟨u, n1, f | f | f | f | f⟩ | ⟨d1, fs⟩⟩ <;> simp only [zls, yls] <;> (first | rfl | (split <;> first | rfl | (cases fs[k]? <;> rfl) | (cases f i.toNatClampNeg <;> rfl) | simp_all [zbnd]))
theorem zfs_y {c : Option zC} {i : Int32} {y : UInt32} {K : zC → zO} {F G : zS → Option zA} : zbnd (zfs c i y K) F G = yfs c i y (fun x => zbnd (K x) F G) := by
  rcases c with _ | ⟨⟨u, n1, f | f | f | f | f⟩ | ⟨d1, fs⟩⟩ <;> simp only [zfs, yfs] <;> (first | rfl | (split <;> first | rfl | (cases fs[k]? <;> rfl) | (cases f i.toNatClampNeg <;> rfl) | simp_all [zbnd]))
theorem zas_y {c d : Option zC} {i : Int32} {a : Nat} {K : zC → zO} {F G : zS → Option zA} : zbnd (zas c d i a K) F G = yas c d i a (fun x => zbnd (K x) F G) := by
  rcases c with _ | ⟨⟨u, n1, f | f | f | f | f⟩ | ⟨d1, fs⟩⟩ <;> rcases d with _ | ⟨⟨u2, n2, g | g | g | g | g⟩ | ⟨d2, gs⟩⟩ <;> simp only [zas, yas] <;> (first | rfl | (split <;> first | rfl | (cases fs[k]? <;> rfl) | (cases f i.toNatClampNeg <;> rfl) | simp_all [zbnd]))
theorem zlen_y {c : Option zC} {K : Nat → zO} {F G : zS → Option zA} : zbnd (zlen c K) F G = yle c (fun x => zbnd (K x) F G) := by
  rcases c with _ | ⟨⟨u, n1, f | f | f | f | f⟩ | ⟨d1, fs⟩⟩ <;> simp only [zlen, yle] <;> (first | rfl | (split <;> first | rfl | (cases fs[k]? <;> rfl) | (cases f i.toNatClampNeg <;> rfl) | simp_all [zbnd]))
theorem zcpy_y {c d : Option zC} {sp dp n : Int32} {K : zC → zO} {F G : zS → Option zA} : zbnd (zcpy c d sp dp n K) F G = ycp c d sp dp n (fun x => zbnd (K x) F G) := by
  rcases c with _ | ⟨⟨u, n1, f | f | f | f | f⟩ | ⟨d1, fs⟩⟩ <;> rcases d with _ | ⟨⟨u2, n2, g | g | g | g | g⟩ | ⟨d2, gs⟩⟩ <;> simp only [zcpy, ycp] <;> (first | rfl | (split <;> first | rfl | (cases fs[k]? <;> rfl) | (cases f i.toNatClampNeg <;> rfl) | simp_all [zbnd]))
theorem zf_getfield {idx ci k a : Nat} (hd : decode code pc = .ok (.getfield idx, 3)) (h : zfl own idx = some (ci, k)) : zrunN M own rt code (n + 1) (pc, L, .ref a :: st, w) = ygt ci k (w.2 a) (fun v => zrunN M own rt code n (pc + 3, L, v :: st, w)) := zf hd rfl (by simp only [zins, h]; rw [zget_y]; rfl)
theorem zf_putfield_i {idx ci k a : Nat} {x : Int32} (hd : decode code pc = .ok (.putfield idx, 3)) (h : zfl own idx = some (ci, k)) (ht : zTy ci k = .int) (hf : zfin ci k = false ∨ (rt = 5 ∧ own = ci)) : zrunN M own rt code (n + 1) (pc, L, .int x :: .ref a :: st, w) = ypt ci k (.int x) (w.2 a) (fun c => zrunN M own rt code n (pc + 3, L, st, zset w a c)) := zf hd rfl (by have e1 : fits (zTy ci k) (.int x) = true := (by first | (rw [ht]; rfl) | (rcases ht with ⟨C, ht⟩ | ⟨C, ht⟩ <;> rw [ht] <;> rfl)); have e2 : narrow (zTy ci k) (.int x) = .int x := (by first | (rw [ht]; rfl) | (rcases ht with ⟨C, ht⟩ | ⟨C, ht⟩ <;> rw [ht] <;> rfl)); simp only [zins, h, if_pos (And.intro e1 (And.intro e2 hf))]; rw [zput_y]; rfl)
theorem zf_putfield_a {idx ci k a : Nat} {x : Nat} (hd : decode code pc = .ok (.putfield idx, 3)) (h : zfl own idx = some (ci, k)) (ht : (∃ C, zTy ci k = .object C) ∨ (∃ C, zTy ci k = .array C)) (hf : zfin ci k = false ∨ (rt = 5 ∧ own = ci)) : zrunN M own rt code (n + 1) (pc, L, .ref x :: .ref a :: st, w) = ypt ci k (.ref x) (w.2 a) (fun c => zrunN M own rt code n (pc + 3, L, st, zset w a c)) := zf hd rfl (by have e1 : fits (zTy ci k) (.ref x) = true := (by first | (rw [ht]; rfl) | (rcases ht with ⟨C, ht⟩ | ⟨C, ht⟩ <;> rw [ht] <;> rfl)); have e2 : narrow (zTy ci k) (.ref x) = .ref x := (by first | (rw [ht]; rfl) | (rcases ht with ⟨C, ht⟩ | ⟨C, ht⟩ <;> rw [ht] <;> rfl)); simp only [zins, h, if_pos (And.intro e1 (And.intro e2 hf))]; rw [zput_y]; rfl)
theorem zf_putfield_z {idx ci k a : Nat} {x : Int32} (hd : decode code pc = .ok (.putfield idx, 3)) (h : zfl own idx = some (ci, k)) (ht : zTy ci k = .boolean) (hf : zfin ci k = false ∨ (rt = 5 ∧ own = ci)) : zrunN M own rt code (n + 1) (pc, L, .int x :: .ref a :: st, w) = ybo x (ypt ci k (.int x) (w.2 a) (fun c => zrunN M own rt code n (pc + 3, L, st, zset w a c))) := zf hd rfl (by by_cases hx : x = 0 ∨ x = 1; (have e1 : fits (zTy ci k) (.int x) = true := (by rw [ht]; rcases hx with rfl | rfl <;> rfl); have e2 : narrow (zTy ci k) (.int x) = .int x := (by rw [ht]; rcases hx with rfl | rfl <;> rfl); simp only [zins, h, if_pos (And.intro e1 (And.intro e2 hf)), ybo, if_pos hx]; rw [zput_y]; rfl); (have e1 : ¬ fits (zTy ci k) (.int x) = true := (by rw [ht]; simpa [fits] using hx); simp only [zins, h, if_neg (fun q => e1 (And.left q)), ybo, if_neg hx]; rfl))
theorem zf_iaload {i : Int32} {a : Nat} (hd : decode code pc = .ok (.iaload, 1)) : zrunN M own rt code (n + 1) (pc, L, .int i :: .ref a :: st, w) = yil (w.2 a) 0 i (fun x => zrunN M own rt code n (pc + 1, L, .int x :: st, w)) := zf hd rfl (by simp only [zins]; rw [zil_y]; rfl)
theorem zf_baload {i : Int32} {a : Nat} (hd : decode code pc = .ok (.baload, 1)) : zrunN M own rt code (n + 1) (pc, L, .int i :: .ref a :: st, w) = yil (w.2 a) 3 i (fun x => zrunN M own rt code n (pc + 1, L, .int x :: st, w)) := zf hd rfl (by simp only [zins]; rw [zil_y]; rfl)
theorem zf_laload {i : Int32} {a : Nat} (hd : decode code pc = .ok (.laload, 1)) : zrunN M own rt code (n + 1) (pc, L, .int i :: .ref a :: st, w) = yll (w.2 a) i (fun x => zrunN M own rt code n (pc + 1, L, .long x :: st, w)) := zf hd rfl (by simp only [zins]; rw [zll_y]; rfl)
theorem zf_faload {i : Int32} {a : Nat} (hd : decode code pc = .ok (.faload, 1)) : zrunN M own rt code (n + 1) (pc, L, .int i :: .ref a :: st, w) = yfl (w.2 a) i (fun x => zrunN M own rt code n (pc + 1, L, .float x :: st, w)) := zf hd rfl (by simp only [zins]; rw [zfll_y]; rfl)
theorem zf_aaload {i : Int32} {a : Nat} (hd : decode code pc = .ok (.aaload, 1)) : zrunN M own rt code (n + 1) (pc, L, .int i :: .ref a :: st, w) = yal (w.2 a) i (fun x => zrunN M own rt code n (pc + 1, L, .ref x :: st, w)) := zf hd rfl (by simp only [zins]; rw [zal_y]; rfl)
theorem zf_iastore {i : Int32} {x : Int32} {a : Nat} (hd : decode code pc = .ok (.iastore, 1)) : zrunN M own rt code (n + 1) (pc, L, .int x :: .int i :: .ref a :: st, w) = yis (w.2 a) 0 i x (fun c => zrunN M own rt code n (pc + 1, L, st, zset w a c)) := zf hd rfl (by simp only [zins]; rw [zis_y]; rfl)
theorem zf_bastore {i : Int32} {x : Int32} {a : Nat} (hd : decode code pc = .ok (.bastore, 1)) : zrunN M own rt code (n + 1) (pc, L, .int x :: .int i :: .ref a :: st, w) = yis (w.2 a) 3 i (x.toInt8.toInt32) (fun c => zrunN M own rt code n (pc + 1, L, st, zset w a c)) := zf hd rfl (by simp only [zins]; rw [zis_y]; rfl)
theorem zf_lastore {i : Int32} {x : Int64} {a : Nat} (hd : decode code pc = .ok (.lastore, 1)) : zrunN M own rt code (n + 1) (pc, L, .long x :: .int i :: .ref a :: st, w) = yls (w.2 a) i x (fun c => zrunN M own rt code n (pc + 1, L, st, zset w a c)) := zf hd rfl (by simp only [zins]; rw [zls_y]; rfl)
theorem zf_fastore {i : Int32} {x : UInt32} {a : Nat} (hd : decode code pc = .ok (.fastore, 1)) : zrunN M own rt code (n + 1) (pc, L, .float x :: .int i :: .ref a :: st, w) = yfs (w.2 a) i x (fun c => zrunN M own rt code n (pc + 1, L, st, zset w a c)) := zf hd rfl (by simp only [zins]; rw [zfs_y]; rfl)
theorem zf_aastore {i : Int32} {x a : Nat} (hd : decode code pc = .ok (.aastore, 1)) : zrunN M own rt code (n + 1) (pc, L, .ref x :: .int i :: .ref a :: st, w) = yas (w.2 a) (w.2 x) i x (fun c => zrunN M own rt code n (pc + 1, L, st, zset w a c)) := zf hd rfl (by simp only [zins]; rw [zas_y]; rfl)
theorem zf_arraylength {a : Nat} (hd : decode code pc = .ok (.arraylength, 1)) : zrunN M own rt code (n + 1) (pc, L, .ref a :: st, w) = yle (w.2 a) (fun k => zrunN M own rt code n (pc + 1, L, .int (zI k) :: st, w)) := zf hd rfl (by simp only [zins]; rw [zlen_y]; rfl)
theorem zf_newarray_int {k : Nat} (hd : decode code pc = .ok (.newarray .int, 2)) (h : k ≤ 10000) : zrunN M own rt code (n + 1) (pc, L, .int (zI k) :: st, w) = zrunN M own rt code n (pc + 2, L, .ref w.1.1 :: st, znew w k (.inl (0, k, .inl (fun _ => 0)))) := zf hd rfl (by have e : (zI (k : Int)).toInt = k := zI_toInt (by omega) (by omega); have e2 : (zI (k : Int)).toNatClampNeg = k := (by show (zI (k : Int)).toInt.toNat = k; omega); simp only [zins, if_pos (show 0 ≤ (zI (k : Int)).toInt ∧ (zI (k : Int)).toInt ≤ 10000 by omega), zatag, e2]; rfl)
theorem zf_newarray_long {k : Nat} (hd : decode code pc = .ok (.newarray .long, 2)) (h : k ≤ 10000) : zrunN M own rt code (n + 1) (pc, L, .int (zI k) :: st, w) = zrunN M own rt code n (pc + 2, L, .ref w.1.1 :: st, znew w k (.inl (1, k, .inr (.inl (fun _ => 0))))) := zf hd rfl (by have e : (zI (k : Int)).toInt = k := zI_toInt (by omega) (by omega); have e2 : (zI (k : Int)).toNatClampNeg = k := (by show (zI (k : Int)).toInt.toNat = k; omega); simp only [zins, if_pos (show 0 ≤ (zI (k : Int)).toInt ∧ (zI (k : Int)).toInt ≤ 10000 by omega), zatag, e2]; rfl)
theorem zf_newarray_float {k : Nat} (hd : decode code pc = .ok (.newarray .float, 2)) (h : k ≤ 10000) : zrunN M own rt code (n + 1) (pc, L, .int (zI k) :: st, w) = zrunN M own rt code n (pc + 2, L, .ref w.1.1 :: st, znew w k (.inl (2, k, .inr (.inr (.inl (fun _ => 0)))))) := zf hd rfl (by have e : (zI (k : Int)).toInt = k := zI_toInt (by omega) (by omega); have e2 : (zI (k : Int)).toNatClampNeg = k := (by show (zI (k : Int)).toInt.toNat = k; omega); simp only [zins, if_pos (show 0 ≤ (zI (k : Int)).toInt ∧ (zI (k : Int)).toInt ≤ 10000 by omega), zatag, e2]; rfl)
theorem zf_newarray_byte {k : Nat} (hd : decode code pc = .ok (.newarray .byte, 2)) (h : k ≤ 10000) : zrunN M own rt code (n + 1) (pc, L, .int (zI k) :: st, w) = zrunN M own rt code n (pc + 2, L, .ref w.1.1 :: st, znew w k (.inl (3, k, .inl (fun _ => 0)))) := zf hd rfl (by have e : (zI (k : Int)).toInt = k := zI_toInt (by omega) (by omega); have e2 : (zI (k : Int)).toNatClampNeg = k := (by show (zI (k : Int)).toInt.toNat = k; omega); simp only [zins, if_pos (show 0 ≤ (zI (k : Int)).toInt ∧ (zI (k : Int)).toInt ≤ 10000 by omega), zatag, e2]; rfl)
theorem zf_anewarray3 {idx k : Nat} (hd : decode code pc = .ok (.anewarray idx, 3)) (hc : zcl own idx = some 3) (h : k ≤ 10000) : zrunN M own rt code (n + 1) (pc, L, .int (zI k) :: st, w) = zrunN M own rt code n (pc + 3, L, .ref w.1.1 :: st, znew w k (.inl (4, k, .inr (.inr (.inr (.inr (fun _ => none))))))) := zf hd rfl (by have e : (zI (k : Int)).toInt = k := zI_toInt (by omega) (by omega); have e2 : (zI (k : Int)).toNatClampNeg = k := (by show (zI (k : Int)).toInt.toNat = k; omega); simp only [zins, if_pos (show 0 ≤ (zI (k : Int)).toInt ∧ (zI (k : Int)).toInt ≤ 10000 by omega), hc, e2]; rfl)
theorem zf_anewarray8 {idx k : Nat} (hd : decode code pc = .ok (.anewarray idx, 3)) (hc : zcl own idx = some 8) (h : k ≤ 10000) : zrunN M own rt code (n + 1) (pc, L, .int (zI k) :: st, w) = zrunN M own rt code n (pc + 3, L, .ref w.1.1 :: st, znew w k (.inl (5, k, .inr (.inr (.inr (.inr (fun _ => none))))))) := zf hd rfl (by have e : (zI (k : Int)).toInt = k := zI_toInt (by omega) (by omega); have e2 : (zI (k : Int)).toNatClampNeg = k := (by show (zI (k : Int)).toInt.toNat = k; omega); simp only [zins, if_pos (show 0 ≤ (zI (k : Int)).toInt ∧ (zI (k : Int)).toInt ≤ 10000 by omega), hc, e2]; rfl)
theorem zf_new {idx ci : Nat} {fs : List Value} (hd : decode code pc = .ok (.new idx, 3)) (hc : zcl own idx = some ci) (hf : zNew[ci]? = some fs) : zrunN M own rt code (n + 1) (pc, L, st, w) = zrunN M own rt code n (pc + 3, L, .ref w.1.1 :: st, znew w fs.length (.inr (ci, fs))) := zf hd rfl (by simp only [zins, hc, hf]; rfl)
theorem zcls_y {ci : Nat} {c : Option zC} {r : zO} {F G : zS → Option zA} : zbnd (zcls ci c r) F G = ycl ci c (zbnd r F G) := by
  rcases c with _ | ⟨x | ⟨d1, fs⟩⟩ <;> simp only [zcls, ycl] <;> (first | rfl | (split <;> rfl))
theorem zb0_y {r : Option zA} {K : zW → zO} {F G : zS → Option zA} : zbnd (zb0 r K) F G = y0 r (fun w => zbnd (K w) F G) := by
  rcases r with _ | ⟨_ | v, w⟩ <;> rfl
theorem zb1_y {r : Option zA} {K : Value → zW → zO} {F G : zS → Option zA} : zbnd (zb1 r K) F G = y1 r (fun v w => zbnd (K v w) F G) := by
  rcases r with _ | ⟨_ | v, w⟩ <;> rfl
theorem zf_virt0 {idx k ne ow np kind rt1 a : Nat} {y : MethodName × ByteArray × Nat × Option FieldType} {As rest st0 : List Value} (hd : decode code pc = .ok (.invokevirtual idx, 3)) (hl : zlk own idx = some (k, ne)) (hm : zMeths[k]? = some (y, (ow, np, kind, rt1))) (hp : zpop np st0 [] = some (As, .ref a :: rest)) (hk : (kind = 1 ∨ kind = 3) ∧ rest.length ≤ 4) (hr : rt1 = 0 ∨ rt1 = 5) : zrunN M own rt code (n + 1) (pc, L, st0, w) = ycl ow (w.2 a) (y0 (M k (.ref a :: As) w) (fun w1 => zrunN M own rt code n (pc + 3, L, rest, w1))) := by
  refine zf hd rfl ?_
  simp only [zins, zcallV, hl, hm, hp, if_pos hk, zback, if_pos hr]
  rw [zcls_y, zb0_y]
  rfl
theorem zf_stat0 {idx k ne ow np kind rt1 : Nat} {y : MethodName × ByteArray × Nat × Option FieldType} {As rest st0 : List Value} (hd : decode code pc = .ok (.invokestatic idx, 3)) (hl : zlk own idx = some (k, ne)) (hm : zMeths[k]? = some (y, (ow, np, kind, rt1))) (hp : zpop np st0 [] = some (As, rest)) (hk : kind = 0 ∧ rest.length ≤ 4) (hr : rt1 = 0 ∨ rt1 = 5) : zrunN M own rt code (n + 1) (pc, L, st0, w) = y0 (M k As w) (fun w1 => zrunN M own rt code n (pc + 3, L, rest, w1)) := by
  refine zf hd rfl ?_
  simp only [zins, zcallS, hl, hm, hp, if_pos hk, zback, if_pos hr]
  rw [zb0_y]
  rfl
theorem zf_virt1 {idx k ne ow np kind rt1 a : Nat} {y : MethodName × ByteArray × Nat × Option FieldType} {As rest st0 : List Value} (hd : decode code pc = .ok (.invokevirtual idx, 3)) (hl : zlk own idx = some (k, ne)) (hm : zMeths[k]? = some (y, (ow, np, kind, rt1))) (hp : zpop np st0 [] = some (As, .ref a :: rest)) (hk : (kind = 1 ∨ kind = 3) ∧ rest.length ≤ 4) (hr : ¬ (rt1 = 0 ∨ rt1 = 5)) : zrunN M own rt code (n + 1) (pc, L, st0, w) = ycl ow (w.2 a) (y1 (M k (.ref a :: As) w) (fun v w1 => zrunN M own rt code n (pc + 3, L, v :: rest, w1))) := by
  refine zf hd rfl ?_
  simp only [zins, zcallV, hl, hm, hp, if_pos hk, zback, if_neg hr]
  rw [zcls_y, zb1_y]
  rfl
theorem zf_stat1 {idx k ne ow np kind rt1 : Nat} {y : MethodName × ByteArray × Nat × Option FieldType} {As rest st0 : List Value} (hd : decode code pc = .ok (.invokestatic idx, 3)) (hl : zlk own idx = some (k, ne)) (hm : zMeths[k]? = some (y, (ow, np, kind, rt1))) (hp : zpop np st0 [] = some (As, rest)) (hk : kind = 0 ∧ rest.length ≤ 4) (hr : ¬ (rt1 = 0 ∨ rt1 = 5)) : zrunN M own rt code (n + 1) (pc, L, st0, w) = y1 (M k As w) (fun v w1 => zrunN M own rt code n (pc + 3, L, v :: rest, w1)) := by
  refine zf hd rfl ?_
  simp only [zins, zcallS, hl, hm, hp, if_pos hk, zback, if_neg hr]
  rw [zb1_y]
  rfl
theorem zf_spec {idx k ne ow np kind rt1 a : Nat} {y : MethodName × ByteArray × Nat × Option FieldType} {As rest st0 : List Value} (hd : decode code pc = .ok (.invokespecial idx, 3)) (hl : zlk own idx = some (k, ne)) (hm : zMeths[k]? = some (y, (ow, np, kind, rt1))) (hp : zpop np st0 [] = some (As, .ref a :: rest)) (hk : kind = 2 ∧ rest.length ≤ 4) (hr : rt1 = 0 ∨ rt1 = 5) : zrunN M own rt code (n + 1) (pc, L, st0, w) = y0 (M k (.ref a :: As) w) (fun w1 => zrunN M own rt code n (pc + 3, L, rest, w1)) := by
  refine zf hd rfl ?_
  simp only [zins, zcallI, hl, hm, hp, if_pos hk, zback, if_pos hr]
  rw [zb0_y]
  rfl
theorem zf_objinit {idx ne a : Nat} {rest : List Value} (hd : decode code pc = .ok (.invokespecial idx, 3)) (hl : zlk own idx = some (1004, ne)) (hm : zMeths[1004]? = none) (hk : rest.length ≤ 4) : zrunN M own rt code (n + 1) (pc, L, .ref a :: rest, w) = zrunN M own rt code n (pc + 3, L, rest, w) := by
  refine zf hd rfl ?_
  simp only [zins, zcallI, hl, hm]
  rw [if_pos ⟨trivial, hk⟩]
  rfl
theorem zf_copy {idx ne a0 a1 : Nat} {sp dp j : Int32} {rest : List Value} (hd : decode code pc = .ok (.invokestatic idx, 3)) (hl : zlk own idx = some (1000, ne)) (hm : zMeths[1000]? = none) (hk : rest.length ≤ 4) : zrunN M own rt code (n + 1) (pc, L, .int j :: .int dp :: .ref a1 :: .int sp :: .ref a0 :: rest, w) = ycp (w.2 a0) (w.2 a1) sp dp j (fun c => zrunN M own rt code n (pc + 3, L, rest, zset w a1 c)) := by
  refine zf hd rfl ?_
  simp only [zins, zcallS, hl, hm, znat]
  rw [if_pos ⟨trivial, hk⟩]
  rw [zcpy_y]
  rfl
theorem zf_f2raw {idx ne : Nat} {x : UInt32} {rest : List Value} (hd : decode code pc = .ok (.invokestatic idx, 3)) (hl : zlk own idx = some (1001, ne)) (hm : zMeths[1001]? = none) (hk : rest.length ≤ 4) : zrunN M own rt code (n + 1) (pc, L, .float x :: rest, w) = zrunN M own rt code n (pc + 3, L, .int x.toInt32 :: rest, w) := by
  refine zf hd rfl ?_
  simp only [zins, zcallS, hl, hm, znat]
  rw [if_pos ⟨trivial, hk⟩]
  rfl
theorem zf_d2raw {idx ne : Nat} {x : UInt64} {rest : List Value} (hd : decode code pc = .ok (.invokestatic idx, 3)) (hl : zlk own idx = some (1003, ne)) (hm : zMeths[1003]? = none) (hk : rest.length ≤ 4) : zrunN M own rt code (n + 1) (pc, L, .double x :: rest, w) = zrunN M own rt code n (pc + 3, L, .long x.toInt64 :: rest, w) := by
  refine zf hd rfl ?_
  simp only [zins, zcallS, hl, hm, znat]
  rw [if_pos ⟨trivial, hk⟩]
  rfl
theorem zf_absf {idx ne : Nat} {x : UInt32} {rest : List Value} (hd : decode code pc = .ok (.invokestatic idx, 3)) (hl : zlk own idx = some (1005, ne)) (hm : zMeths[1005]? = none) (hk : rest.length ≤ 4) : zrunN M own rt code (n + 1) (pc, L, .float x :: rest, w) = zkf x (zrunN M own rt code n (pc + 3, L, .float (x &&& 0x7fffffff) :: rest, w)) := by
  refine zf hd rfl ?_
  simp only [zins, zcallS, hl, hm, znat, zkf]
  rw [if_neg (by simp)]
  by_cases h : x &&& 0x7fffffff ≤ 0x7f800000
  · rw [if_pos ⟨trivial, hk, h⟩, if_pos h]
    rfl
  · rw [if_neg (fun q => h q.2.2), if_neg h]
    rfl
theorem zf_ireturn {x : Int32} (hd : decode code pc = .ok (.ireturn, 1)) (hr : rt = 1) : zrunN M own rt code (n + 1) (pc, L, [.int x], w) = some (some (.int x), w) := zf hd rfl (by simp only [zins]; rw [if_pos (Or.inl hr)]; rfl)
theorem zf_zreturn {x : Int32} (hd : decode code pc = .ok (.ireturn, 1)) (hr : rt = 2) : zrunN M own rt code (n + 1) (pc, L, [.int x], w) = ybo x (some (some (.int x), w)) := zf hd rfl (by
  subst hr
  simp only [zins, ybo]
  by_cases h : x = 0 ∨ x = 1
  · rw [if_pos h, if_pos (Or.inr ⟨trivial, h⟩)]
    rfl
  · rw [if_neg h, if_neg (by simpa using h)]
    rfl)
theorem zf_lreturn {x : Int64} (hd : decode code pc = .ok (.lreturn, 1)) (hr : rt = 3) : zrunN M own rt code (n + 1) (pc, L, [.long x], w) = some (some (.long x), w) := zf hd rfl (by simp only [zins]; rw [if_pos hr]; rfl)
theorem zf_freturn {x : UInt32} (hd : decode code pc = .ok (.freturn, 1)) (hr : rt = 4) : zrunN M own rt code (n + 1) (pc, L, [.float x], w) = some (some (.float x), w) := zf hd rfl (by simp only [zins]; rw [if_pos hr]; rfl)
theorem zf_return (hd : decode code pc = .ok (.return_, 1)) (hr : rt = 0 ∨ rt = 5) : zrunN M own rt code (n + 1) (pc, L, [], w) = some (none, w) := zf hd rfl (by simp only [zins]; rw [if_pos hr]; rfl)
end ZF
