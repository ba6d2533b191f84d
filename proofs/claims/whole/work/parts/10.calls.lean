/-! ===== A CALL of the pure machine is a contract of the machine's method ===== -/
theorem zpad_spec : ∀ {n : Nat} {X L : zLoc}, zpad n X = some L → L.length = n ∧ X.length ≤ n ∧ ∀ i v, zld L i = some v → zld X i = some v := by
  intro n
  induction n with
  | zero =>
    intro X L h
    cases X with
    | nil =>
      simp only [zpad, Option.some.injEq] at h
      subst h
      exact ⟨rfl, Nat.le_refl _, fun i v h => h⟩
    | cons x t => simp [zpad] at h
  | succ n ih =>
    intro X L h
    cases X with
    | nil =>
      simp only [zpad] at h
      obtain ⟨L1, h1, rfl⟩ := Option.map_eq_some_iff.mp h
      obtain ⟨e1, e2, e3⟩ := ih h1
      refine ⟨by simp [e1], Nat.zero_le _, fun i v hi => ?_⟩
      match i with
      | 0 => rw [zld_0] at hi; cases hi
      | i + 1 =>
        rw [zld_s] at hi
        have := e3 i v hi
        simp [zld] at this
    | cons x t =>
      simp only [zpad] at h
      obtain ⟨L1, h1, rfl⟩ := Option.map_eq_some_iff.mp h
      obtain ⟨e1, e2, e3⟩ := ih h1
      refine ⟨by simp [e1], by simp; omega, fun i v hi => ?_⟩
      match i with
      | 0 => rw [zld_0] at hi ⊢; exact hi
      | i + 1 =>
        rw [zld_s] at hi ⊢
        exact e3 i v hi
theorem zarg1_len (v : Value) : (zarg1 v).length = v.category := by cases v <;> rfl
theorem zargs_len : ∀ As : List Value, (zargs As).length = (lg_sl As).length := by
  intro As
  induction As with
  | nil => rfl
  | cons v t ih =>
    rw [zargs, List.length_append, ih, zarg1_len]
    cases v <;> simp [lg_sl, Value.category] <;> omega
theorem zargs_at : ∀ (As : List Value) (k i : Nat) (v : Value), zld (zargs As) i = some v → (k + i, v) ∈ lv_args k As := by
  intro As
  induction As with
  | nil => intro k i v h; simp [zargs, zld] at h
  | cons u t ih =>
    intro k i v h
    have hc : (k + i, v) ∈ (k, u) :: lv_args (k + u.category) t := by
      rw [zargs] at h
      have two : ∀ (x : Value), u.category = 2 → zld (some x :: none :: zargs t) i = some v → x = u → (k + i, v) ∈ (k, u) :: lv_args (k + u.category) t := by
        intro x hu h hx
        match i with
        | 0 => rw [zld_0] at h; cases h; rw [hx]; exact List.mem_cons_self
        | 1 => rw [zld_s, zld_0] at h; cases h
        | i + 2 =>
          rw [zld_s, zld_s] at h
          have := ih (k + u.category) i v h
          rw [hu] at this ⊢
          rw [show k + (i + 2) = k + 2 + i by omega]
          exact List.mem_cons_of_mem _ this
      have one : ∀ (x : Option Value), u.category = 1 → zld (x :: zargs t) i = some v → (x = some u ∨ x = none) → (k + i, v) ∈ (k, u) :: lv_args (k + u.category) t := by
        intro x hu h hx
        match i with
        | 0 =>
          rw [zld_0] at h
          rcases hx with hx | hx
          · rw [hx] at h; cases h; exact List.mem_cons_self
          · rw [hx] at h; cases h
        | i + 1 =>
          rw [zld_s] at h
          have := ih (k + u.category) i v h
          rw [hu] at this ⊢
          rw [show k + (i + 1) = k + 1 + i by omega]
          exact List.mem_cons_of_mem _ this
      cases u with
      | int x => exact one _ rfl h (Or.inl rfl)
      | long x => exact two _ rfl h rfl
      | float x => exact one _ rfl h (Or.inl rfl)
      | double x => exact two _ rfl h rfl
      | ref x => exact one _ rfl h (Or.inl rfl)
      | null => exact one _ rfl h (Or.inr rfl)
      | retAddr x => exact one _ rfl h (Or.inr rfl)
    have hcat : (if u.category = 2 then k + 2 else k + 1) = k + u.category := by cases u <;> rfl
    rw [lv_args, hcat]
    exact hc
theorem zcall_sound (l : Launch) (D : va_G) (dA : Nat → ClassId) (base : Nat) : ∀ d : Nat, zMets l D dA base d (zcall d) := by
  intro d
  induction d with
  | zero => intro k t ht As w r w' h; simp [zcall] at h
  | succ d ih =>
    intro k t ht As w r w' h
    refine ⟨zcall_mono _ _ _ _ _ _ h, ?_⟩
    have htm : t ∈ zMeths := List.mem_of_getElem? ht
    obtain ⟨⟨y, code, maxL, ret⟩, ow, np, kind, rt⟩ := t
    simp only [zcall] at h
    rw [ht] at h
    dsimp only at h
    split at h
    · rename_i L hL
      obtain ⟨n, hn⟩ := zruns_iff.mp h
      obtain ⟨e1, e2, e3⟩ := zpad_spec hL
      obtain ⟨f1, f2, f3, f4, f5, f6⟩ := zm_facts htm
      obtain ⟨g1, g2, g3, g4, g5⟩ := zm_facts3 htm
      dsimp only at f3 g2 g3 g4
      have hpl : plainFor y = true := List.all_eq_true.mp zplain _ htm
      refine va_MetF (cc := code) (maxL := maxL) (ret := ret) (ws' := lw_good) hpl rfl ?_
      intro p e s m args below meth c s₁ B hml hv
      obtain ⟨rfl, hR, hKS⟩ := hv
      have hts := atoms_spec (ws := zws ((y, code, maxL, ret), (ow, np, kind, rt))) B.pre
      have hown : s.vm.findClass (zR ow) = some m.cls := by rw [← f3]; exact findClass_of_methodNamed B.named
      have hctor : rt = 5 → meth.name = "<init>" := by
        intro h5
        have hk2 : kind = 2 := Classical.byContradiction (fun q => g4 q h5)
        rw [← (g3 hk2).1]
        exact (name_of_methodNamed B.named B.method).1
      have C : zCtx p l s m As.toArray meth c (zrm (d + 1) w w') D dA base d ow rt code (zcall d) := ⟨B.exec, B.bytes, hown, fun w hw => hts w (List.mem_cons_of_mem _ hw), hKS, hctor, Nat.le_refl _, by show 40 * d + 40 ≤ 40 * (d + 1); omega, ih⟩
      have hle : (lg_sl As).length ≤ maxL := by rw [← zargs_len]; exact e2
      have hl := lv_entry As hle
      rw [lg_entry_eq]
      have hlv : zlv (lg_sl As ++ List.replicate (maxL - (lg_sl As).length) Slot.unset).toArray L := by
        refine ⟨by rw [e1]; exact hl.1, hl.2.1, fun i v hi => ?_⟩
        have h1 := zargs_at As 0 i v (e3 i v hi)
        rw [Nat.zero_add] at h1
        exact hl.2.2 _ h1
      have key := zexec_W (e := e) (below := below) C B.returns g2 B.notSynchronized (zcall_mono d) (w0 := w) (v := r) (w' := w') ⟨Nat.le_refl _, Nat.le_refl _⟩ n 0 L [] w hn (hml.trans e1.symm) zle_rfl s.heap [] _ hR va_S.rf hlv
      rw [Nat.sub_self, Nat.sub_self] at key
      exact key
    · cases h
