/-! ===== worlds only grow; runs and calls of the pure machine are the machine's ===== -/
theorem zle_rfl {w : zW} : zle w w := ⟨Nat.le_refl _, Nat.le_refl _⟩
theorem zle_set {w : zW} {a : Nat} {c : zC} : zle w (zset w a c) := ⟨Nat.le_refl _, Nat.le_refl _⟩
theorem zle_new {w : zW} {n : Nat} {c : zC} : zle w (znew w n c) := ⟨Nat.le_succ _, Nat.le_add_right _ _⟩
theorem zle_tr {a b c : zW} (h : zle a b) (g : zle b c) : zle a c := ⟨Nat.le_trans h.1 g.1, Nat.le_trans h.2 g.2⟩
def zMono (M : zM) : Prop := ∀ (k : Nat) (As : List Value) (w : zW) (r : Option Value) (w' : zW), M k As w = some (r, w') → zle w w'
def zgl (w : zW) (o : zO) : Prop := (∀ b s', o = some (.inl (b, s')) → zle w s'.2.2.2)
theorem zgl_go {w w' : zW} {pc : Nat} {L : zLoc} {st : List Value} (h : zle w w') : zgl w (zgo pc L st w') := by
  intro b s' e
  obtain rfl := zgo_inv e
  exact h
theorem zgl_jp {w w' : zW} {pc : Nat} {L : zLoc} {st : List Value} (h : zle w w') : zgl w (zjp pc L st w') := by
  intro b s' e
  obtain rfl := zjp_inv e
  exact h
theorem zgl_none {w : zW} : zgl w none := by
  intro b s' e
  cases e
theorem zgl_ret {w : zW} {r : zA} : zgl w (some (.inr r)) := by
  intro b s' e
  cases e
theorem zgl_back {w : zW} {r : Option zA} {rt pc : Nat} {L : zLoc} {st : List Value} (h : ∀ v w', r = some (v, w') → zle w w') : zgl w (zback r rt pc L st) := by
  intro b s' e
  obtain ⟨v, w', h1, rfl⟩ := zback_inv e
  exact h _ _ h1
theorem zgl_set {w : zW} {a pc : Nat} {L : zLoc} {st : List Value} {c : zC} : zgl w (zgo pc L st (zset w a c)) := zgl_go zle_set
theorem zgl_self {w : zW} {pc : Nat} {L : zLoc} {st : List Value} : zgl w (zgo pc L st w) := zgl_go zle_rfl
set_option maxHeartbeats 4000000 in
set_option maxRecDepth 20000 in
theorem zins_le {M : zM} (hM : zMono M) {own rt pc : Nat} {i : Instr} {L : zLoc} {st : List Value} {w : zW} : zgl w (zins M own rt i pc L st w) := by
  unfold zins
  split
  all_goals (try dsimp only [zlod, zsto, zii, zjj, zff, zdd, zji, zun, zbr, zjump, zget, zput, zcls, zil, zll, zfll, zal, zis, zls, zfs, zas, zlen, zcallV, zcallS, zcallI, znat, zcpy])
  all_goals (repeat' first
    | exact zgl_none
    | exact zgl_self
    | exact zgl_set
    | exact zgl_ret
    | exact zgl_jp zle_rfl
    | exact zgl_go zle_new
    | exact zgl_back (fun v w' h => hM _ _ _ _ _ h)
    | split)
def zrp (P : zA → Prop) (o : zO) : Prop := ∀ r, o = some (.inr r) → P r
theorem zrp_go {P : zA → Prop} {w : zW} {pc : Nat} {L : zLoc} {st : List Value} : zrp P (zgo pc L st w) := by
  intro r e
  cases e
theorem zrp_jp {P : zA → Prop} {w : zW} {pc : Nat} {L : zLoc} {st : List Value} : zrp P (zjp pc L st w) := by
  intro r e
  cases e
theorem zrp_none {P : zA → Prop} : zrp P none := by
  intro r e
  cases e
theorem zrp_back {P : zA → Prop} {r : Option zA} {rt pc : Nat} {L : zLoc} {st : List Value} : zrp P (zback r rt pc L st) := by
  intro q e
  unfold zback at e
  split at e
  · obtain ⟨w, -, h2⟩ := zb0_inv e
    cases h2
  · obtain ⟨v, w, -, h2⟩ := zb1_inv e
    cases h2
theorem zrp_ret {P : zA → Prop} {r : zA} (h : P r) : zrp P (some (.inr r)) := by
  intro q e
  cases e
  exact h
/-- what a method's end is -/
def zend (rt : Nat) (i : Instr) (st : List Value) (v : Option Value) : Prop :=
  (i = .ireturn ∧ ∃ x : Int32, st = [.int x] ∧ v = some (.int x) ∧ (rt = 1 ∨ (rt = 2 ∧ (x = 0 ∨ x = 1)))) ∨ (i = .lreturn ∧ ∃ x : Int64, st = [.long x] ∧ v = some (.long x) ∧ rt = 3) ∨
  (i = .freturn ∧ ∃ x : UInt32, st = [.float x] ∧ v = some (.float x) ∧ rt = 4) ∨ (i = .return_ ∧ st = [] ∧ v = none ∧ (rt = 0 ∨ rt = 5))
set_option maxHeartbeats 4000000 in
set_option maxRecDepth 20000 in
theorem zins_ret0 {M : zM} {own rt pc : Nat} {i : Instr} {L : zLoc} {st : List Value} {w : zW} : zrp (fun r => r.2 = w ∧ zend rt i st r.1) (zins M own rt i pc L st w) := by
  unfold zins
  split
  all_goals (try dsimp only [zlod, zsto, zii, zjj, zff, zdd, zji, zun, zbr, zjump, zget, zput, zcls, zil, zll, zfll, zal, zis, zls, zfs, zas, zlen, zcallV, zcallS, zcallI, znat, zcpy])
  all_goals (repeat' first
    | exact zrp_none
    | exact zrp_go
    | exact zrp_jp
    | exact zrp_back
    | split)
  · rename_i h
    exact zrp_ret ⟨rfl, Or.inl ⟨rfl, _, rfl, rfl, h⟩⟩
  · rename_i h
    exact zrp_ret ⟨rfl, Or.inr (Or.inl ⟨rfl, _, rfl, rfl, h⟩)⟩
  · rename_i h
    exact zrp_ret ⟨rfl, Or.inr (Or.inr (Or.inl ⟨rfl, _, rfl, rfl, h⟩))⟩
  · rename_i h
    exact zrp_ret ⟨rfl, Or.inr (Or.inr (Or.inr ⟨rfl, rfl, rfl, h⟩))⟩
theorem zins_ret {M : zM} {own rt pc : Nat} {i : Instr} {L : zLoc} {st : List Value} {w w' : zW} {v : Option Value} (h : zins M own rt i pc L st w = some (.inr (v, w'))) : w' = w ∧ zend rt i st v := zins_ret0 _ h
theorem zstep_inv {M : zM} {own rt : Nat} {code : ByteArray} {pc : Nat} {L : zLoc} {st : List Value} {w : zW} {x : (Bool × zS) ⊕ zA} (h : zstep M own rt code (pc, L, st, w) = some x) : ∃ (i : Instr) (len : Nat), decode code pc = .ok (i, len) ∧ zlenOk i len = true ∧ zins M own rt i pc L st w = some x := by
  unfold zstep at h
  dsimp only at h
  split at h
  · rename_i i len hd
    split at h
    · rename_i hl
      exact ⟨i, len, hd, hl, h⟩
    · cases h
  · cases h
theorem zexec_le {M : zM} (hM : zMono M) {own rt : Nat} {code : ByteArray} : ∀ (n : Nat) (s : zS) (r : zA), zexec M own rt code n s = some r → zle s.2.2.2 r.2 := by
  intro n
  induction n with
  | zero => intro s r h; simp [zexec] at h
  | succ n ih =>
    intro s r h
    obtain ⟨pc, L, st, w⟩ := s
    simp only [zexec] at h
    split at h
    · rename_i b s' hs
      obtain ⟨i, len, hd, hl, hz⟩ := zstep_inv hs
      exact zle_tr (zins_le hM _ _ hz) (ih _ _ h)
    · rename_i r' hs
      obtain ⟨i, len, hd, hl, hz⟩ := zstep_inv hs
      cases h
      obtain ⟨v, w'⟩ := r
      obtain ⟨rfl, -⟩ := zins_ret hz
      exact zle_rfl
    · cases h
theorem zcall_mono : ∀ d : Nat, zMono (zcall d) := by
  intro d
  induction d with
  | zero => intro k As w r w' h; simp [zcall] at h
  | succ d ih =>
    intro k As w r w' h
    simp only [zcall] at h
    split at h
    · split at h
      · obtain ⟨n, hn⟩ := zruns_iff.mp h
        exact zexec_le ih n _ _ hn
      · cases h
    · cases h
section ZRUN
variable {p : Program} {l : Launch} {e : Env} {R : Room} {s : State} {m : MethodId} {args : Array Value} {below : List Frame} {meth : Method} {c : Code}
variable {D : va_G} {dA : Nat → ClassId} {base : Nat}
/-- the locals' number stays -/
theorem zset_len {L : zLoc} {i : Nat} {v : Value} {L1 : zLoc} (h : zst1 L i v = some L1) : L1.length = L.length := (zst1_spec h).1
def zll_ (n : Nat) (o : zO) : Prop := ∀ b s', o = some (.inl (b, s')) → s'.2.1.length = n
theorem zll_go {n pc : Nat} {w : zW} {L : zLoc} {st : List Value} (h : L.length = n) : zll_ n (zgo pc L st w) := by
  intro b s' e
  obtain rfl := zgo_inv e
  exact h
theorem zll_jp {n pc : Nat} {w : zW} {L : zLoc} {st : List Value} (h : L.length = n) : zll_ n (zjp pc L st w) := by
  intro b s' e
  obtain rfl := zjp_inv e
  exact h
theorem zll_none {n : Nat} : zll_ n none := by
  intro b s' e
  cases e
theorem zll_ret {n : Nat} {r : zA} : zll_ n (some (.inr r)) := by
  intro b s' e
  cases e
theorem zll_back {n : Nat} {r : Option zA} {rt pc : Nat} {L : zLoc} {st : List Value} (h : L.length = n) : zll_ n (zback r rt pc L st) := by
  intro b s' e
  obtain ⟨v, w', -, rfl⟩ := zback_inv e
  exact h
set_option maxHeartbeats 4000000 in
set_option maxRecDepth 20000 in
theorem zins_len {M : zM} {own rt pc : Nat} {i : Instr} {L : zLoc} {st : List Value} {w : zW} : zll_ L.length (zins M own rt i pc L st w) := by
  unfold zins
  split
  all_goals (try dsimp only [zlod, zsto, zii, zjj, zff, zdd, zji, zun, zbr, zjump, zget, zput, zcls, zil, zll, zfll, zal, zis, zls, zfs, zas, zlen, zcallV, zcallS, zcallI, znat, zcpy])
  all_goals (repeat' first
    | exact zll_none
    | exact zll_go rfl
    | exact zll_ret
    | exact zll_jp rfl
    | exact zll_back rfl
    | exact zll_go (zst1_spec (by assumption)).1
    | exact zll_go (zst2_spec (by assumption)).1
    | split)
/-- a run of the pure machine to its end is one of the machine -/
theorem zexec_W {code : ByteArray} {own rt d : Nat} {M : zM} {w0 : zW} {ret : Option FieldType} (C : zCtx p l s m args meth c R D dA base d own rt code M) (hr : meth.sig.returnType = ret) (hret : ret = ([none, some .int, some .boolean, some .long, some .float, none] : List (Option FieldType)).getD rt none) (hlocks : meth.locks = false) (hMo : zMono M) {v : Option Value} {w' : zW} (hcells : w'.1.1 - w0.1.1 ≤ R.cells ∧ w'.1.2 - w0.1.2 ≤ R.slots) :
    ∀ (n pc : Nat) (L : zLoc) (st : List Value) (w : zW), zexec M own rt code n (pc, L, st, w) = some (v, w') → c.maxLocals = L.length → zle w0 w →
      ∀ (H : Heap) (locs : List Loc) (ls : Array Slot), zRel D dA base w s H → va_S (fun q => base ≤ q) s.heap H locs → zlv ls L →
        W p l e R s m args below meth c H locs (w.1.1 - w0.1.1) (w.1.2 - w0.1.2) (MQ below (zQc D dA base v w') args s (w'.1.1 - w0.1.1) (w'.1.2 - w0.1.2) (fun q => base ≤ q)) (F0 m pc ls st) := by
  intro n
  induction n with
  | zero => intro pc L st w h; simp [zexec] at h
  | succ n ih =>
    intro pc L st w h hml hle H locs ls hR hS hlv
    simp only [zexec] at h
    split at h
    · rename_i b s' hs
      obtain ⟨i, len, hd, hl, hz⟩ := zstep_inv hs
      have hle1 := zins_le hMo _ _ hz
      have hle2 := zexec_le hMo _ _ _ h
      obtain ⟨pc', L', st', w1⟩ := s'
      dsimp only at hle1 hle2
      have hlen := zins_len _ _ hz
      dsimp only at hlen
      refine zins_W C hml hR hS hlv hd hl hz hle ⟨?_, ?_⟩ (fun H1 locs1 ls1 hR1 hS1 hlv1 => ih pc' L' st' w1 h (hml.trans hlen.symm) (zle_tr hle hle1) H1 locs1 ls1 hR1 hS1 hlv1)
      · have h1 := hle2.1
        dsimp only
        omega
      · have h1 := hle2.2
        dsimp only
        omega
    · rename_i r' hs
      obtain ⟨i, len, hd, hl, hz⟩ := zstep_inv hs
      cases h
      obtain ⟨rfl, hend⟩ := zins_ret hz
      obtain ⟨hx, hb, hown, hts, hKS, hctor, hF, hL, hM⟩ := C
      have hq : ∀ t : State, t.heap = H → s.WarmedH t.vm → zQc D dA base v w' args s (.returned v) t := fun t ht hW => ⟨rfl, by rw [ht]; exact hR.moved hW.alike, hS.F ht⟩
      rcases hend with ⟨rfl, x, rfl, rfl, hrt⟩ | ⟨rfl, x, rfl, rfl, hrt⟩ | ⟨rfl, x, rfl, rfl, hrt⟩ | ⟨rfl, rfl, rfl, hrt⟩
      · obtain rfl : len = 1 := beq_iff_eq.mp hl
        rcases hrt with rfl | ⟨rfl, hx01⟩
        · exact W.iret hx hb (hr.trans hret) hq hS.2.2 hd
        · refine W.zret (ty := .boolean) hx hb (hr.trans hret) ?_ hq hS.2.2 hd
          rcases hx01 with rfl | rfl <;> rfl
      · obtain rfl : len = 1 := beq_iff_eq.mp hl
        subst hrt
        exact W.lret hx hb (hr.trans hret) hq hS.2.2 hd
      · obtain rfl : len = 1 := beq_iff_eq.mp hl
        subst hrt
        exact W.fret hx hb (hr.trans hret) hq hS.2.2 hd
      · obtain rfl : len = 1 := beq_iff_eq.mp hl
        rcases hrt with rfl | rfl
        · exact W.vret hx hb (hr.trans hret) hq hS.2.2 hd
        · exact W.vret hx hb (hr.trans hret) hq hS.2.2 hd
    · cases h
end ZRUN
