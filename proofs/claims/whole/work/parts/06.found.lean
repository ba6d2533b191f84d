/-! ===== locals; what an instruction that goes on has found ===== -/
def zlv (ls : Array Slot) (L : zLoc) : Prop := ls.size = L.length ∧ lv_wf ls ∧ ∀ i v, zld L i = some v → ls[i]? = some (.val v)
def zass (L : zLoc) : List (Nat × Value) := (List.range L.length).filterMap (fun i => (zld L i).map (fun v => (i, v)))
theorem zld_lt {L : zLoc} {i : Nat} {v : Value} (h : zld L i = some v) : i < L.length := by
  unfold zld at h
  split at h
  · rename_i h1
    exact (List.getElem?_eq_some_iff.mp h1).1
  · cases h
theorem zass_mem {L : zLoc} {q : Nat × Value} : q ∈ zass L ↔ zld L q.1 = some q.2 := by
  unfold zass
  rw [List.mem_filterMap]
  constructor
  · rintro ⟨i, -, hi⟩
    obtain ⟨v, hv, rfl⟩ := Option.map_eq_some_iff.mp hi
    exact hv
  · intro h
    exact ⟨q.1, List.mem_range.mpr (zld_lt h), by rw [h]; rfl⟩
theorem zlv.has {ls : Array Slot} {L : zLoc} (h : zlv ls L) : lv_has ls L.length (zass L) := ⟨h.1, h.2.1, fun q hq => h.2.2 _ _ (zass_mem.mp hq)⟩
theorem zld_0 (p : Option Value) (t : zLoc) : zld (p :: t) 0 = p := by
  cases p <;> rfl
theorem zld_s (p : Option Value) (t : zLoc) (i : Nat) : zld (p :: t) (i + 1) = zld t i := rfl
theorem zkp_spec {p : Option Value} {u : Value} (h : zkp p = some u) : p = some u ∧ ¬ u.category = 2 := by
  cases p with
  | none => cases h
  | some v => cases v <;> simp [zkp] at h <;> subst h <;> exact ⟨rfl, by simp [Value.category]⟩
theorem zst1_spec : ∀ {L : zLoc} {i : Nat} {v : Value} {L1 : zLoc}, zst1 L i v = some L1 → L1.length = L.length ∧ i < L.length ∧ ∀ j u, zld L1 j = some u → (j = i ∧ u = v) ∨ (zld L j = some u ∧ j ≠ i ∧ ¬ (j + 1 = i ∧ u.category = 2)) := by
  intro L
  induction L with
  | nil => intro i v L1 h; simp [zst1] at h
  | cons p t ih =>
    intro i v L1 h
    match i with
    | 0 =>
      simp only [zst1, Option.some.injEq] at h
      subst h
      refine ⟨rfl, Nat.succ_pos _, fun j u hj => ?_⟩
      match j with
      | 0 =>
        rw [zld_0] at hj
        exact Or.inl ⟨rfl, (Option.some.inj hj).symm⟩
      | j + 1 => exact Or.inr ⟨hj, by omega, by omega⟩
    | 1 =>
      simp only [zst1] at h
      obtain ⟨t1, h1, rfl⟩ := Option.map_eq_some_iff.mp h
      obtain ⟨e1, e2, e3⟩ := ih h1
      refine ⟨by simp [e1], by simp; omega, fun j u hj => ?_⟩
      match j with
      | 0 =>
        rw [zld_0] at hj
        obtain ⟨a, b⟩ := zkp_spec hj
        exact Or.inr ⟨by rw [zld_0]; exact a, by omega, fun q => b q.2⟩
      | j + 1 =>
        rw [zld_s] at hj ⊢
        rcases e3 j u hj with ⟨a, b⟩ | ⟨a, b, d⟩
        · exact Or.inl ⟨by omega, b⟩
        · exact Or.inr ⟨a, by omega, fun q => by omega⟩
    | i + 2 =>
      simp only [zst1] at h
      obtain ⟨t1, h1, rfl⟩ := Option.map_eq_some_iff.mp h
      obtain ⟨e1, e2, e3⟩ := ih h1
      refine ⟨by simp [e1], by simp; omega, fun j u hj => ?_⟩
      match j with
      | 0 =>
        rw [zld_0] at hj
        exact Or.inr ⟨by rw [zld_0]; exact hj, by omega, fun q => by omega⟩
      | j + 1 =>
        rw [zld_s] at hj ⊢
        rcases e3 j u hj with ⟨a, b⟩ | ⟨a, b, d⟩
        · exact Or.inl ⟨by omega, b⟩
        · exact Or.inr ⟨a, by omega, fun q => d ⟨by omega, q.2⟩⟩
theorem zlv.st1 {ls' : Array Slot} {L L1 : zLoc} {i : Nat} {v : Value} (h1 : zst1 L i v = some L1) (h : lv_has ls' L.length ((i, v) :: (zass L).filter (fun q => !(q.1 == i) && !(q.1 + 1 == i && q.2.category == 2)))) : zlv ls' L1 := by
  obtain ⟨e1, e2, e3⟩ := zst1_spec h1
  refine ⟨by rw [e1]; exact h.1, h.2.1, fun j u hj => ?_⟩
  rcases e3 j u hj with ⟨rfl, rfl⟩ | ⟨a, b, d⟩
  · exact h.2.2 _ List.mem_cons_self
  · refine h.2.2 (j, u) (List.mem_cons_of_mem _ (List.mem_filter.mpr ⟨zass_mem.mpr a, ?_⟩))
    simp only [Bool.and_eq_true, Bool.not_eq_true', beq_eq_false_iff_ne, ne_eq, Bool.and_eq_false_iff]
    refine ⟨b, ?_⟩
    by_cases hz : j + 1 = i
    · exact Or.inr (fun q => d ⟨hz, q⟩)
    · exact Or.inl hz
theorem zst2_spec {L : zLoc} {i : Nat} {v : Value} {L1 : zLoc} (h : zst2 L i v = some L1) : L1.length = L.length ∧ i + 1 < L.length ∧ ∀ j u, zld L1 j = some u → (j = i ∧ u = v) ∨ (zld L j = some u ∧ j ≠ i ∧ j ≠ i + 1 ∧ ¬ (j + 1 = i ∧ u.category = 2)) := by
  unfold zst2 at h
  split at h
  · rename_i hl
    obtain ⟨L2, h2, rfl⟩ := Option.map_eq_some_iff.mp h
    obtain ⟨e1, e2, e3⟩ := zst1_spec h2
    refine ⟨by simp [e1], hl, fun j u hj => ?_⟩
    have hx : j ≠ i + 1 ∧ zld L2 j = some u := by
      unfold zld at hj
      rw [List.getElem?_set] at hj
      by_cases hji : i + 1 = j
      · rw [if_pos hji] at hj
        split at hj
        · rename_i hq
          split at hq
          · simp at hq
          · cases hq
        · cases hj
      · rw [if_neg hji] at hj
        exact ⟨fun q => hji q.symm, hj⟩
    rcases e3 j u hx.2 with ⟨a, b⟩ | ⟨a, b, d⟩
    · exact Or.inl ⟨a, b⟩
    · exact Or.inr ⟨a, b, hx.1, d⟩
  · cases h
theorem zlv.st2 {ls' : Array Slot} {L L1 : zLoc} {i : Nat} {v : Value} (h1 : zst2 L i v = some L1) (h : lv_has ls' L.length ((i, v) :: (zass L).filter (fun q => !(q.1 == i) && (!(q.1 == i + 1) && !(q.1 + 1 == i && q.2.category == 2))))) : zlv ls' L1 := by
  obtain ⟨e1, e2, e3⟩ := zst2_spec h1
  refine ⟨by rw [e1]; exact h.1, h.2.1, fun j u hj => ?_⟩
  rcases e3 j u hj with ⟨rfl, rfl⟩ | ⟨a, b, g, d⟩
  · exact h.2.2 _ List.mem_cons_self
  · refine h.2.2 (j, u) (List.mem_cons_of_mem _ (List.mem_filter.mpr ⟨zass_mem.mpr a, ?_⟩))
    simp only [Bool.and_eq_true, Bool.not_eq_true', beq_eq_false_iff_ne, ne_eq, Bool.and_eq_false_iff]
    refine ⟨b, g, ?_⟩
    by_cases hz : j + 1 = i
    · exact Or.inr (fun q => d ⟨hz, q⟩)
    · exact Or.inl hz
theorem zgo_inv {pc : Nat} {L : zLoc} {st : List Value} {w : zW} {b : Bool} {s' : zS} (h : zgo pc L st w = some (.inl (b, s'))) : s' = (pc, L, st, w) := by
  unfold zgo at h
  cases h
  rfl
theorem zjp_inv {pc : Nat} {L : zLoc} {st : List Value} {w : zW} {b : Bool} {s' : zS} (h : zjp pc L st w = some (.inl (b, s'))) : s' = (pc, L, st, w) := by
  unfold zjp at h
  cases h
  rfl
theorem zlod_int {L : zLoc} {i pc : Nat} {st : List Value} {w : zW} {b : Bool} {s' : zS} (h : zlod L i pc 0 st w = some (.inl (b, s'))) : ∃ x : Int32, zld L i = some (.int x) ∧ s' = (pc, L, .int x :: st, w) := by
  unfold zlod at h
  split at h
  all_goals first | (exact ⟨_, by assumption, zgo_inv h⟩) | (simp at h; done) | (cases h; done)
theorem zsto_int {L : zLoc} {i pc : Nat} {st : List Value} {w : zW} {b : Bool} {s' : zS} (h : zsto L i pc 0 st w = some (.inl (b, s'))) : ∃ (x : Int32) (st1 : List Value) (L1 : zLoc), st = .int x :: st1 ∧ zst1 L i (.int x) = some L1 ∧ s' = (pc, L1, st1, w) := by
  unfold zsto at h
  split at h
  all_goals first | (simp at h; done) | skip
  rw [if_pos rfl] at h
  split at h
  · exact ⟨_, _, _, rfl, by assumption, zgo_inv h⟩
  · cases h
theorem zlod_long {L : zLoc} {i pc : Nat} {st : List Value} {w : zW} {b : Bool} {s' : zS} (h : zlod L i pc 1 st w = some (.inl (b, s'))) : ∃ x : Int64, zld L i = some (.long x) ∧ s' = (pc, L, .long x :: st, w) := by
  unfold zlod at h
  split at h
  all_goals first | (exact ⟨_, by assumption, zgo_inv h⟩) | (simp at h; done) | (cases h; done)
theorem zsto_long {L : zLoc} {i pc : Nat} {st : List Value} {w : zW} {b : Bool} {s' : zS} (h : zsto L i pc 1 st w = some (.inl (b, s'))) : ∃ (x : Int64) (st1 : List Value) (L1 : zLoc), st = .long x :: st1 ∧ zst2 L i (.long x) = some L1 ∧ s' = (pc, L1, st1, w) := by
  unfold zsto at h
  split at h
  all_goals first | (simp at h; done) | skip
  rw [if_pos rfl] at h
  split at h
  · exact ⟨_, _, _, rfl, by assumption, zgo_inv h⟩
  · cases h
theorem zlod_float {L : zLoc} {i pc : Nat} {st : List Value} {w : zW} {b : Bool} {s' : zS} (h : zlod L i pc 2 st w = some (.inl (b, s'))) : ∃ x : UInt32, zld L i = some (.float x) ∧ s' = (pc, L, .float x :: st, w) := by
  unfold zlod at h
  split at h
  all_goals first | (exact ⟨_, by assumption, zgo_inv h⟩) | (simp at h; done) | (cases h; done)
theorem zsto_float {L : zLoc} {i pc : Nat} {st : List Value} {w : zW} {b : Bool} {s' : zS} (h : zsto L i pc 2 st w = some (.inl (b, s'))) : ∃ (x : UInt32) (st1 : List Value) (L1 : zLoc), st = .float x :: st1 ∧ zst1 L i (.float x) = some L1 ∧ s' = (pc, L1, st1, w) := by
  unfold zsto at h
  split at h
  all_goals first | (simp at h; done) | skip
  rw [if_pos rfl] at h
  split at h
  · exact ⟨_, _, _, rfl, by assumption, zgo_inv h⟩
  · cases h
theorem zlod_double {L : zLoc} {i pc : Nat} {st : List Value} {w : zW} {b : Bool} {s' : zS} (h : zlod L i pc 3 st w = some (.inl (b, s'))) : ∃ x : UInt64, zld L i = some (.double x) ∧ s' = (pc, L, .double x :: st, w) := by
  unfold zlod at h
  split at h
  all_goals first | (exact ⟨_, by assumption, zgo_inv h⟩) | (simp at h; done) | (cases h; done)
theorem zsto_double {L : zLoc} {i pc : Nat} {st : List Value} {w : zW} {b : Bool} {s' : zS} (h : zsto L i pc 3 st w = some (.inl (b, s'))) : ∃ (x : UInt64) (st1 : List Value) (L1 : zLoc), st = .double x :: st1 ∧ zst2 L i (.double x) = some L1 ∧ s' = (pc, L1, st1, w) := by
  unfold zsto at h
  split at h
  all_goals first | (simp at h; done) | skip
  rw [if_pos rfl] at h
  split at h
  · exact ⟨_, _, _, rfl, by assumption, zgo_inv h⟩
  · cases h
theorem zlod_ref {L : zLoc} {i pc : Nat} {st : List Value} {w : zW} {b : Bool} {s' : zS} (h : zlod L i pc 4 st w = some (.inl (b, s'))) : ∃ x : Nat, zld L i = some (.ref x) ∧ s' = (pc, L, .ref x :: st, w) := by
  unfold zlod at h
  split at h
  all_goals first | (exact ⟨_, by assumption, zgo_inv h⟩) | (simp at h; done) | (cases h; done)
theorem zsto_ref {L : zLoc} {i pc : Nat} {st : List Value} {w : zW} {b : Bool} {s' : zS} (h : zsto L i pc 4 st w = some (.inl (b, s'))) : ∃ (x : Nat) (st1 : List Value) (L1 : zLoc), st = .ref x :: st1 ∧ zst1 L i (.ref x) = some L1 ∧ s' = (pc, L1, st1, w) := by
  unfold zsto at h
  split at h
  all_goals first | (simp at h; done) | skip
  rw [if_pos rfl] at h
  split at h
  · exact ⟨_, _, _, rfl, by assumption, zgo_inv h⟩
  · cases h
theorem zii_inv {pc : Nat} {L : zLoc} {w : zW} {st : List Value} {F : Int32 → Int32 → Option Value} {b : Bool} {s' : zS} (h : zii pc L w st F = some (.inl (b, s'))) : ∃ (x y : Int32) (rest : List Value) (v : Value), st = .int y :: .int x :: rest ∧ F x y = some v ∧ s' = (pc, L, v :: rest, w) := by
  unfold zii at h
  split at h
  · split at h
    · exact ⟨_, _, _, _, rfl, by assumption, zgo_inv h⟩
    · cases h
  · cases h
theorem zjj_inv {pc : Nat} {L : zLoc} {w : zW} {st : List Value} {F : Int64 → Int64 → Option Value} {b : Bool} {s' : zS} (h : zjj pc L w st F = some (.inl (b, s'))) : ∃ (x y : Int64) (rest : List Value) (v : Value), st = .long y :: .long x :: rest ∧ F x y = some v ∧ s' = (pc, L, v :: rest, w) := by
  unfold zjj at h
  split at h
  · split at h
    · exact ⟨_, _, _, _, rfl, by assumption, zgo_inv h⟩
    · cases h
  · cases h
theorem zff_inv {pc : Nat} {L : zLoc} {w : zW} {st : List Value} {F : UInt32 → UInt32 → Option Value} {b : Bool} {s' : zS} (h : zff pc L w st F = some (.inl (b, s'))) : ∃ (x y : UInt32) (rest : List Value) (v : Value), st = .float y :: .float x :: rest ∧ F x y = some v ∧ s' = (pc, L, v :: rest, w) := by
  unfold zff at h
  split at h
  · split at h
    · exact ⟨_, _, _, _, rfl, by assumption, zgo_inv h⟩
    · cases h
  · cases h
theorem zdd_inv {pc : Nat} {L : zLoc} {w : zW} {st : List Value} {F : UInt64 → UInt64 → Option Value} {b : Bool} {s' : zS} (h : zdd pc L w st F = some (.inl (b, s'))) : ∃ (x y : UInt64) (rest : List Value) (v : Value), st = .double y :: .double x :: rest ∧ F x y = some v ∧ s' = (pc, L, v :: rest, w) := by
  unfold zdd at h
  split at h
  · split at h
    · exact ⟨_, _, _, _, rfl, by assumption, zgo_inv h⟩
    · cases h
  · cases h
theorem zji_inv {pc : Nat} {L : zLoc} {w : zW} {st : List Value} {F : Int64 → Int32 → Value} {b : Bool} {s' : zS} (h : zji pc L w st F = some (.inl (b, s'))) : ∃ (x : Int64) (y : Int32) (rest : List Value), st = .int y :: .long x :: rest ∧ s' = (pc, L, F x y :: rest, w) := by
  unfold zji at h
  split at h
  · exact ⟨_, _, _, rfl, zgo_inv h⟩
  · cases h
theorem zun_inv {pc : Nat} {L : zLoc} {w : zW} {st : List Value} {F : Value → Option Value} {b : Bool} {s' : zS} (h : zun pc L w st F = some (.inl (b, s'))) : ∃ (v : Value) (rest : List Value) (u : Value), st = v :: rest ∧ F v = some u ∧ s' = (pc, L, u :: rest, w) := by
  unfold zun at h
  split at h
  · split at h
    · exact ⟨_, _, _, rfl, by assumption, zgo_inv h⟩
    · cases h
  · cases h
theorem znf_inv {x : UInt32} {v u : Value} (h : znf x v = some u) : vf_n32 x ∧ v = u := by
  unfold znf at h
  split at h
  · exact ⟨by assumption, Option.some.inj h⟩
  · cases h
theorem znd_inv {x : UInt64} {v u : Value} (h : znd x v = some u) : vf_n64 x ∧ v = u := by
  unfold znd at h
  split at h
  · exact ⟨by assumption, Option.some.inj h⟩
  · cases h
theorem ztg_inv {pc : Nat} {off : Int} {t : Nat} (h : ztg pc off = some t) : (pc : Int) + off = (t : Int) := by
  unfold ztg at h
  split at h
  · have := Option.some.inj h
    omega
  · cases h
theorem zjump_inv {pc : Nat} {off : Int} {L : zLoc} {st : List Value} {w : zW} {b : Bool} {s' : zS} (h : zjump (ztg pc off) L st w = some (.inl (b, s'))) : ∃ t : Nat, (pc : Int) + off = (t : Int) ∧ s' = (t, L, st, w) := by
  unfold zjump at h
  split at h
  · rename_i t ht
    exact ⟨t, ztg_inv ht, zjp_inv h⟩
  · cases h
theorem zbr_inv {pc : Nat} {off : Int} {c : Prop} {hc : Decidable c} {L : zLoc} {st : List Value} {w : zW} {b : Bool} {s' : zS} (h : zbr pc off c hc L st w = some (.inl (b, s'))) : ∃ t : Nat, (pc : Int) + off = (t : Int) ∧ (c → s' = (t, L, st, w)) ∧ (¬ c → s' = (pc + 3, L, st, w)) := by
  unfold zbr at h
  split at h
  · rename_i t ht
    have h1 := zjp_inv h
    refine ⟨t, ztg_inv ht, fun hp => ?_, fun hp => ?_⟩
    · rw [h1, if_pos hp]
    · rw [h1, if_neg hp]
  · cases h
theorem zget_inv {ci k : Nat} {c : Option zC} {K : Value → zO} {x : (Bool × zS) ⊕ zA} (h : zget ci k c K = some x) : ∃ (fs : List Value) (v : Value), c = some (.inr (ci, fs)) ∧ fs[k]? = some v ∧ K v = some x := by
  unfold zget at h
  split at h
  · split at h
    · rename_i hd
      subst hd
      split at h
      · exact ⟨_, _, rfl, by assumption, h⟩
      · cases h
    · cases h
  · cases h
theorem zput_inv {ci k : Nat} {v : Value} {c : Option zC} {K : zC → zO} {x : (Bool × zS) ⊕ zA} (h : zput ci k v c K = some x) : ∃ fs : List Value, c = some (.inr (ci, fs)) ∧ k < fs.length ∧ K (.inr (ci, fs.set k v)) = some x := by
  unfold zput at h
  split at h
  · split at h
    · rename_i hd
      obtain ⟨rfl, hk⟩ := hd
      exact ⟨_, rfl, hk, h⟩
    · cases h
  · cases h
theorem zcls_inv {ci : Nat} {c : Option zC} {r : zO} {x : (Bool × zS) ⊕ zA} (h : zcls ci c r = some x) : ∃ fs : List Value, c = some (.inr (ci, fs)) ∧ r = some x := by
  unfold zcls at h
  split at h
  · split at h
    · rename_i hd
      subst hd
      exact ⟨_, rfl, h⟩
    · cases h
  · cases h
theorem zil_inv {c : Option zC} {t : Nat} {i : Int32} {K : Int32 → zO} {x : (Bool × zS) ⊕ zA} (h : zil c t i K = some x) : ∃ (u n : Nat) (f : Nat → Int32), c = some (.inl (u, n, .inl f)) ∧ (u = t ∨ u = 9 ∧ t = 0) ∧ zin i n = true ∧ K (f i.toNatClampNeg) = some x := by
  unfold zil at h
  split at h
  · split at h
    · rename_i hd
      exact ⟨_, _, _, rfl, hd.1, hd.2, h⟩
    · cases h
  · cases h
theorem zll_inv {c : Option zC} {i : Int32} {K : Int64 → zO} {x : (Bool × zS) ⊕ zA} (h : zll c i K = some x) : ∃ (n : Nat) (f : Nat → Int64), c = some (.inl (1, n, .inr (.inl f))) ∧ zin i n = true ∧ K (f i.toNatClampNeg) = some x := by
  unfold zll at h
  split at h
  · split at h
    · rename_i hd
      obtain ⟨rfl, hd⟩ := hd
      exact ⟨_, _, rfl, hd, h⟩
    · cases h
  · cases h
theorem zfll_inv {c : Option zC} {i : Int32} {K : UInt32 → zO} {x : (Bool × zS) ⊕ zA} (h : zfll c i K = some x) : ∃ (n : Nat) (f : Nat → UInt32), c = some (.inl (2, n, .inr (.inr (.inl f)))) ∧ zin i n = true ∧ K (f i.toNatClampNeg) = some x := by
  unfold zfll at h
  split at h
  · split at h
    · rename_i hd
      obtain ⟨rfl, hd⟩ := hd
      exact ⟨_, _, rfl, hd, h⟩
    · cases h
  · cases h
theorem zal_inv {c : Option zC} {i : Int32} {K : Nat → zO} {x : (Bool × zS) ⊕ zA} (h : zal c i K = some x) : ∃ (u n : Nat) (f : Nat → Option Nat) (a : Nat), c = some (.inl (u, n, .inr (.inr (.inr (.inr f))))) ∧ (u = 4 ∨ u = 5) ∧ zin i n = true ∧ f i.toNatClampNeg = some a ∧ K a = some x := by
  unfold zal at h
  split at h
  · split at h
    · rename_i hd
      split at h
      · exact ⟨_, _, _, _, rfl, hd.1, hd.2, by assumption, h⟩
      · cases h
    · cases h
  · cases h
theorem zis_inv {c : Option zC} {t : Nat} {i y : Int32} {K : zC → zO} {x : (Bool × zS) ⊕ zA} (h : zis c t i y K = some x) : ∃ (n : Nat) (f : Nat → Int32), c = some (.inl (t, n, .inl f)) ∧ zin i n = true ∧ K (.inl (t, n, .inl (upd f i.toNatClampNeg y))) = some x := by
  unfold zis at h
  split at h
  · split at h
    · rename_i hd
      obtain ⟨rfl, hd⟩ := hd
      exact ⟨_, _, rfl, hd, h⟩
    · cases h
  · cases h
theorem zls_inv {c : Option zC} {i : Int32} {y : Int64} {K : zC → zO} {x : (Bool × zS) ⊕ zA} (h : zls c i y K = some x) : ∃ (n : Nat) (f : Nat → Int64), c = some (.inl (1, n, .inr (.inl f))) ∧ zin i n = true ∧ K (.inl (1, n, .inr (.inl (vp_updL f i.toNatClampNeg y)))) = some x := by
  unfold zls at h
  split at h
  · split at h
    · rename_i hd
      obtain ⟨rfl, hd⟩ := hd
      exact ⟨_, _, rfl, hd, h⟩
    · cases h
  · cases h
theorem zfs_inv {c : Option zC} {i : Int32} {y : UInt32} {K : zC → zO} {x : (Bool × zS) ⊕ zA} (h : zfs c i y K = some x) : ∃ (n : Nat) (f : Nat → UInt32), c = some (.inl (2, n, .inr (.inr (.inl f)))) ∧ zin i n = true ∧ K (.inl (2, n, .inr (.inr (.inl (vf_upd f i.toNatClampNeg y))))) = some x := by
  unfold zfs at h
  split at h
  · split at h
    · rename_i hd
      obtain ⟨rfl, hd⟩ := hd
      exact ⟨_, _, rfl, hd, h⟩
    · cases h
  · cases h
theorem zas_inv {c d : Option zC} {i : Int32} {a : Nat} {K : zC → zO} {x : (Bool × zS) ⊕ zA} (h : zas c d i a K = some x) : ∃ (u n e : Nat) (f : Nat → Option Nat) (vs : List Value), c = some (.inl (u, n, .inr (.inr (.inr (.inr f))))) ∧ d = some (.inr (e, vs)) ∧ ((u = 4 ∧ e = 3) ∨ (u = 5 ∧ e = 8)) ∧ zin i n = true ∧ K (.inl (u, n, .inr (.inr (.inr (.inr (va_up f i.toNatClampNeg (some a))))))) = some x := by
  unfold zas at h
  split at h
  · split at h
    · split at h
      · rename_i hd
        exact ⟨_, _, _, _, _, rfl, rfl, hd.1, hd.2, h⟩
      · cases h
    · cases h
  · cases h
theorem zlen_inv {c : Option zC} {K : Nat → zO} {x : (Bool × zS) ⊕ zA} (h : zlen c K = some x) : ∃ (u : Nat) (y : vp_A), c = some (.inl (u, y)) ∧ (u < 6 ∨ (u = 9 ∧ ∃ f, y.2 = .inl f)) ∧ K y.1 = some x := by
  unfold zlen at h
  split at h
  · split at h
    · rename_i hd
      rcases hd with hd | hd
      · exact ⟨_, _, rfl, Or.inl hd, h⟩
      · exact ⟨_, _, rfl, Or.inr ⟨hd, _, rfl⟩, h⟩
    · cases h
  · split at h
    · exact ⟨_, _, rfl, Or.inl (by assumption), h⟩
    · cases h
  · cases h
theorem zb0_inv {r : Option zA} {K : zW → zO} {x : (Bool × zS) ⊕ zA} (h : zb0 r K = some x) : ∃ w : zW, r = some (none, w) ∧ K w = some x := by
  unfold zb0 at h
  split at h
  · exact ⟨_, rfl, h⟩
  · cases h
theorem zb1_inv {r : Option zA} {K : Value → zW → zO} {x : (Bool × zS) ⊕ zA} (h : zb1 r K = some x) : ∃ (v : Value) (w : zW), r = some (some v, w) ∧ K v w = some x := by
  unfold zb1 at h
  split at h
  · exact ⟨_, _, rfl, h⟩
  · cases h
theorem zback_inv {r : Option zA} {rt pc : Nat} {L : zLoc} {st : List Value} {b : Bool} {s' : zS} (h : zback r rt pc L st = some (.inl (b, s'))) : ∃ (v : Option Value) (w : zW), r = some (v, w) ∧ s' = (pc + 3, L, v.toList ++ st, w) := by
  unfold zback at h
  split at h
  · obtain ⟨w, h1, h2⟩ := zb0_inv h
    exact ⟨none, w, h1, zgo_inv h2⟩
  · obtain ⟨v, w, h1, h2⟩ := zb1_inv h
    exact ⟨some v, w, h1, zgo_inv h2⟩
theorem zpop_inv : ∀ {n : Nat} {st acc As rest : List Value}, zpop n st acc = some (As, rest) → ∃ A : List Value, As = A ++ acc ∧ st = A.reverse ++ rest ∧ A.length = n := by
  intro n
  induction n with
  | zero =>
    intro st acc As rest h
    simp only [zpop, Option.some.injEq, Prod.mk.injEq] at h
    obtain ⟨rfl, rfl⟩ := h
    exact ⟨[], rfl, rfl, rfl⟩
  | succ n ih =>
    intro st acc As rest h
    cases st with
    | nil => simp [zpop] at h
    | cons v st =>
      simp only [zpop] at h
      obtain ⟨A, h1, h2, h3⟩ := ih h
      exact ⟨A ++ [v], by rw [h1]; simp, by rw [h2]; simp, by simp [h3]⟩
theorem zcpy_inv {c d : Option zC} {sp dp n : Int32} {K : zC → zO} {x : (Bool × zS) ⊕ zA} (h : zcpy c d sp dp n K = some x) :
    (∃ (n0 n1 : Nat) (f g : Nat → Int32), c = some (.inl (0, n0, .inl f)) ∧ d = some (.inl (0, n1, .inl g)) ∧ 0 ≤ sp.toInt ∧ 0 ≤ dp.toInt ∧ 0 ≤ n.toInt ∧ sp.toInt + n.toInt ≤ n0 ∧ dp.toInt + n.toInt ≤ n1 ∧ K (.inl (0, n1, .inl (va_cpy f g sp.toNatClampNeg dp.toNatClampNeg n.toNatClampNeg))) = some x) ∨
    (∃ (n0 n1 : Nat) (f g : Nat → Int64), c = some (.inl (1, n0, .inr (.inl f))) ∧ d = some (.inl (1, n1, .inr (.inl g))) ∧ 0 ≤ sp.toInt ∧ 0 ≤ dp.toInt ∧ 0 ≤ n.toInt ∧ sp.toInt + n.toInt ≤ n0 ∧ dp.toInt + n.toInt ≤ n1 ∧ K (.inl (1, n1, .inr (.inl (va_cpy f g sp.toNatClampNeg dp.toNatClampNeg n.toNatClampNeg)))) = some x) := by
  unfold zcpy at h
  split at h
  · split at h
    · rename_i hd
      obtain ⟨rfl, rfl, h1, h2, h3, h4, h5⟩ := hd
      exact Or.inl ⟨_, _, _, _, rfl, rfl, h1, h2, h3, h4, h5, h⟩
    · cases h
  · split at h
    · rename_i hd
      obtain ⟨rfl, rfl, h1, h2, h3, h4, h5⟩ := hd
      exact Or.inr ⟨_, _, _, _, rfl, rfl, h1, h2, h3, h4, h5, h⟩
    · cases h
  · cases h
