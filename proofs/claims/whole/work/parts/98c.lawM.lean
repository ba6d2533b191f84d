/-! ===== the law's machine: calls see the world from the base on ===== -/
theorem zexec_end {M : zM} {own rt : Nat} {code : ByteArray} : ∀ (n : Nat) (s : zS) (v : Option Value) (w' : zW), zexec M own rt code n s = some (v, w') → ∃ i st, zend rt i st v := by
  intro n
  induction n with
  | zero => intro s v w' h; simp [zexec] at h
  | succ n ih =>
    intro s v w' h
    obtain ⟨pc, L, st, w⟩ := s
    simp only [zexec] at h
    split at h
    · exact ih _ _ _ h
    · rename_i r' hs
      obtain ⟨i, len, hd, hl, hz⟩ := zstep_inv hs
      cases h
      exact ⟨i, st, (zins_ret hz).2⟩
    · cases h
theorem zcall_end {d k : Nat} {As : List Value} {w w' : zW} {v : Option Value} {t : zMT} (hk : zMeths[k]? = some t) (h : zcall (d + 1) k As w = some (v, w')) : ∃ i st, zend t.2.2.2.2 i st v := by
  simp only [zcall] at h
  rw [hk] at h
  obtain ⟨⟨y, code, maxL, ret⟩, ow, np, kind, rt⟩ := t
  dsimp only at h
  split at h
  · obtain ⟨n, hn⟩ := zruns_iff.mp h
    exact zexec_end n _ _ _ hn
  · cases h
theorem zcall_int {d k : Nat} {As : List Value} {w w' : zW} {v : Option Value} {t : zMT} (hk : zMeths[k]? = some t) (ht : t.2.2.2.2 = 1) (h : zcall (d + 1) k As w = some (v, w')) : ∃ x, v = some (.int x) := by
  obtain ⟨i, st, e⟩ := zcall_end hk h
  rw [ht] at e
  rcases e with ⟨-, x, -, rfl, -⟩ | ⟨-, x, -, -, e⟩ | ⟨-, x, -, -, e⟩ | ⟨-, -, -, e⟩
  · exact ⟨x, rfl⟩
  · omega
  · omega
  · omega
theorem zcall_long {d k : Nat} {As : List Value} {w w' : zW} {v : Option Value} {t : zMT} (hk : zMeths[k]? = some t) (ht : t.2.2.2.2 = 3) (h : zcall (d + 1) k As w = some (v, w')) : ∃ x, v = some (.long x) := by
  obtain ⟨i, st, e⟩ := zcall_end hk h
  rw [ht] at e
  rcases e with ⟨-, x, -, -, e⟩ | ⟨-, x, -, rfl, -⟩ | ⟨-, x, -, -, e⟩ | ⟨-, -, -, e⟩
  · omega
  · exact ⟨x, rfl⟩
  · omega
  · omega
/-- the script beside a world from b on -/
def zlaw (b sb : Nat) (sc : zC) (g : Nat → Option zC) : Nat → Option zC := fun a => if b ≤ a then g a else if a = sb then some sc else none
noncomputable def zlw (d b : Nat) : zM := fun k As w => (zcall d k As (w.1, fun a => if b ≤ a then w.2 a else none)).map (fun r => (r.1, (r.2.1, fun a => if b ≤ a then r.2.2 a else w.2 a)))
section LAWM
variable {d b sb : Nat} {sc : zC} {g g' : Nat → Option zC}
theorem zlaw_s (h : sb < b) : zlaw b sb sc g sb = some sc := by
  unfold zlaw
  rw [if_neg (by omega), if_pos rfl]
theorem zlaw_b {a : Nat} (h : b ≤ a) : zlaw b sb sc g a = g a := if_pos h
theorem zlaw_up {a : Nat} {c : Option zC} (h : b ≤ a) : zup (zlaw b sb sc g) a c = zlaw b sb sc (zup g a c) := by
  funext x
  unfold zup zlaw
  by_cases q : x = a
  · dsimp only
    rw [if_pos q, if_pos (by omega), if_pos q]
  · dsimp only
    simp only [if_neg q]
theorem zlw_call {k : Nat} {As : List Value} {z z' : Nat × Nat} {r : Option Value} (hg : ∀ a, a < b → g a = none) (h : zcall d k As (z, g) = some (r, (z', g'))) : zlw d b k As (z, zlaw b sb sc g) = some (r, (z', zlaw b sb sc g')) := by
  have e : (fun a => if b ≤ a then zlaw b sb sc g a else none) = g := by
    funext a
    by_cases q : b ≤ a
    · rw [if_pos q]
      exact zlaw_b q
    · rw [if_neg q, hg a (by omega)]
  have e2 : (fun a => if b ≤ a then g' a else zlaw b sb sc g a) = zlaw b sb sc g' := by
    funext a
    unfold zlaw
    by_cases q : b ≤ a
    · simp only [if_pos q]
    · simp only [if_neg q]
  unfold zlw
  dsimp only
  rw [e, h]
  show some (r, (z', fun a => if b ≤ a then g' a else zlaw b sb sc g a)) = _
  rw [e2]
end LAWM
theorem zlw_mono (d b : Nat) : zMono (zlw d b) := by
  intro k As w r w' h
  unfold zlw at h
  obtain ⟨⟨r0, w0⟩, h0, e⟩ := Option.map_eq_some_iff.mp h
  have h1 := zcall_mono d _ _ _ _ _ h0
  injection e with e1 e2
  rw [← e2]
  exact h1
theorem zlw_mets (l : Launch) (D : va_G) (dA : Nat → ClassId) (b d : Nat) : zMets l D dA b d (zlw d b) := by
  intro k t ht As w r w' h
  unfold zlw at h
  obtain ⟨⟨r0, w0⟩, h0, e⟩ := Option.map_eq_some_iff.mp h
  obtain ⟨hle, hM⟩ := zcall_sound l D dA b d k t ht As _ _ _ h0
  injection e with e1 e2
  dsimp only at e1 e2 hle hM
  subst e1
  have z1 : w'.1 = w0.1 := by rw [← e2]
  refine ⟨by unfold zle at *; rw [z1]; exact hle, ?_⟩
  have hrm : zrm d w w' = zrm d (w.1, fun a => if b ≤ a then w.2 a else none) w0 := by
    unfold zrm
    rw [z1]
  rw [hrm, z1]
  intro p e ha hc hk s m args below hf happ hP hK
  have hP0 : zPc D dA b As (w.1, fun a => if b ≤ a then w.2 a else none) args s := by
    obtain ⟨p1, p2, p3⟩ := hP
    refine ⟨p1, ⟨p2.1, p2.2.1, fun a c hcc => ?_⟩, p3⟩
    dsimp only at hcc
    split at hcc
    · exact p2.2.2 a c hcc
    · cases hcc
  obtain ⟨n, o, h1, h2, h3, hq, hF⟩ := hM p e ha hc hk s m args below hf happ hP0 hK
  refine ⟨n, o, h1, h2, h3, ⟨hq.1, ⟨?_, ?_, fun a c hcc => ?_⟩, hq.2.2⟩, hF⟩
  · rw [z1]
    exact hq.2.1.1
  · rw [z1]
    exact hq.2.1.2.1
  · rw [← e2] at hcc
    dsimp only at hcc
    split at hcc
    · exact hq.2.1.2.2 a c hcc
    · rename_i hlt
      have hz := hP.2.1.2.2 a c hcc
      have hls := hz.lt
      have hal : s.vm.Alike (stepsAlone p.tables e n s).vm := by
        obtain ⟨L, hFE, -⟩ := hF
        exact hFE.2.1.alike
      exact (hz.kept (hq.2.2.2 a hls hlt)).moved hal
