set_option maxRecDepth 100000 in
theorem zarrw0 : ∀ w ∈ ([.arrayClass .int, .arrayClass .long, .arrayClass .float, .arrayClass .byte] : List Cond), w ∈ lw_tbl := by decide +kernel
theorem zarrw {w : Cond} (i : Nat) (h : ([.arrayClass .int, .arrayClass .long, .arrayClass .float, .arrayClass .byte] : List Cond)[i]? = some w) : w ∈ lw_good := by
  have hm := List.mem_of_getElem? h
  refine zg (zarrw0 w hm) ?_
  simp only [List.mem_cons, List.not_mem_nil, or_false] at hm
  rcases hm with rfl | rfl | rfl | rfl <;> rfl
/-! ===== EVERY INSTRUCTION that goes on ===== -/
section ZINS
variable {p : Program} {l : Launch} {e : Env} {R : Room} {s : State} {m : MethodId} {args : Array Value} {below : List Frame} {meth : Method} {c : Code} {H : Heap} {locs : List Loc} {Q : State → Prop}
variable {pc : Nat} {ls : Array Slot} {D : va_G} {dA : Nat → ClassId} {base : Nat} {H0 : Heap} {w : zW}
set_option maxRecDepth 20000 in
theorem zins_W {code : ByteArray} {own rt d len : Nat} {i : Instr} {M : zM} {L : zLoc} {st : List Value} {b : Bool} {s' : zS} {n0 m0 : Nat} (C : zCtx p l s m args meth c R D dA base d own rt code M) (hml : c.maxLocals = L.length) (hR : zRel D dA base w s H) (hS : va_S (fun q => base ≤ q) H0 H locs) (hlv : zlv ls L)
    (hdec : decode code pc = .ok (i, len)) (hlen : zlenOk i len = true) (h : zins M own rt i pc L st w = some (.inl (b, s'))) (hn : n0 ≤ w.1.1 ∧ m0 ≤ w.1.2) (hc : s'.2.2.2.1.1 - n0 ≤ R.cells ∧ s'.2.2.2.1.2 - m0 ≤ R.slots)
    (kk : ∀ (H1 : Heap) (locs1 : List Loc) (ls1 : Array Slot), zRel D dA base s'.2.2.2 s H1 → va_S (fun q => base ≤ q) H0 H1 locs1 → zlv ls1 s'.2.1 → W p l e R s m args below meth c H1 locs1 (s'.2.2.2.1.1 - n0) (s'.2.2.2.1.2 - m0) Q (F0 m s'.1 ls1 s'.2.2.1)) :
    W p l e R s m args below meth c H locs (w.1.1 - n0) (w.1.2 - m0) Q (F0 m pc ls st) := by
  obtain ⟨hx, hb, hown, hts, hKS, hctor, hF, hL, hM⟩ := id C
  have hK := hKS.1
  have hml' : c.maxLocals = ls.size := hml.trans hlv.1.symm
  cases i with
  | iload_n k =>
    obtain rfl : len = 1 := beq_iff_eq.mp hlen
    obtain ⟨x, h1, rfl⟩ := zlod_int h
    exact lv_iload_n hx hb hdec rfl (hlv.2.2 _ _ h1) (kk H locs ls hR hS hlv)
  | iload k =>
    obtain rfl : len = 2 := beq_iff_eq.mp hlen
    obtain ⟨x, h1, rfl⟩ := zlod_int h
    exact lv_iload hx hb hdec (hlv.2.2 _ _ h1) (kk H locs ls hR hS hlv)
  | istore_n k =>
    obtain rfl : len = 1 := beq_iff_eq.mp hlen
    obtain ⟨x, st1, L1, rfl, h2, rfl⟩ := zsto_int h
    exact lv_istore_n hx hb hdec rfl hlv.has (zst1_spec h2).2.1 rfl (fun ls1 hl1 => kk H locs ls1 hR hS (zlv.st1 h2 hl1))
  | istore k =>
    obtain rfl : len = 2 := beq_iff_eq.mp hlen
    obtain ⟨x, st1, L1, rfl, h2, rfl⟩ := zsto_int h
    exact lv_istore hx hb hdec hlv.has (zst1_spec h2).2.1 rfl (fun ls1 hl1 => kk H locs ls1 hR hS (zlv.st1 h2 hl1))
  | lload_n k =>
    obtain rfl : len = 1 := beq_iff_eq.mp hlen
    obtain ⟨x, h1, rfl⟩ := zlod_long h
    exact lv_lload_n hx hb hdec rfl (hlv.2.2 _ _ h1) (kk H locs ls hR hS hlv)
  | lload k =>
    obtain rfl : len = 2 := beq_iff_eq.mp hlen
    obtain ⟨x, h1, rfl⟩ := zlod_long h
    exact lv_lload hx hb hdec (hlv.2.2 _ _ h1) (kk H locs ls hR hS hlv)
  | lstore_n k =>
    obtain rfl : len = 1 := beq_iff_eq.mp hlen
    obtain ⟨x, st1, L1, rfl, h2, rfl⟩ := zsto_long h
    exact lv_lstore_n hx hb hdec rfl hlv.has (zst2_spec h2).2.1 rfl (fun ls1 hl1 => kk H locs ls1 hR hS (zlv.st2 h2 hl1))
  | lstore k =>
    obtain rfl : len = 2 := beq_iff_eq.mp hlen
    obtain ⟨x, st1, L1, rfl, h2, rfl⟩ := zsto_long h
    exact lv_lstore hx hb hdec hlv.has (zst2_spec h2).2.1 rfl (fun ls1 hl1 => kk H locs ls1 hR hS (zlv.st2 h2 hl1))
  | fload_n k =>
    obtain rfl : len = 1 := beq_iff_eq.mp hlen
    obtain ⟨x, h1, rfl⟩ := zlod_float h
    exact lv_fload_n hx hb hdec rfl (hlv.2.2 _ _ h1) (kk H locs ls hR hS hlv)
  | fload k =>
    obtain rfl : len = 2 := beq_iff_eq.mp hlen
    obtain ⟨x, h1, rfl⟩ := zlod_float h
    exact lv_fload hx hb hdec (hlv.2.2 _ _ h1) (kk H locs ls hR hS hlv)
  | fstore_n k =>
    obtain rfl : len = 1 := beq_iff_eq.mp hlen
    obtain ⟨x, st1, L1, rfl, h2, rfl⟩ := zsto_float h
    exact lv_fstore_n hx hb hdec rfl hlv.has (zst1_spec h2).2.1 rfl (fun ls1 hl1 => kk H locs ls1 hR hS (zlv.st1 h2 hl1))
  | fstore k =>
    obtain rfl : len = 2 := beq_iff_eq.mp hlen
    obtain ⟨x, st1, L1, rfl, h2, rfl⟩ := zsto_float h
    exact lv_fstore hx hb hdec hlv.has (zst1_spec h2).2.1 rfl (fun ls1 hl1 => kk H locs ls1 hR hS (zlv.st1 h2 hl1))
  | dload_n k =>
    obtain rfl : len = 1 := beq_iff_eq.mp hlen
    obtain ⟨x, h1, rfl⟩ := zlod_double h
    exact lv_dload_n hx hb hdec rfl (hlv.2.2 _ _ h1) (kk H locs ls hR hS hlv)
  | dload k =>
    obtain rfl : len = 2 := beq_iff_eq.mp hlen
    obtain ⟨x, h1, rfl⟩ := zlod_double h
    exact lv_dload hx hb hdec (hlv.2.2 _ _ h1) (kk H locs ls hR hS hlv)
  | dstore_n k =>
    obtain rfl : len = 1 := beq_iff_eq.mp hlen
    obtain ⟨x, st1, L1, rfl, h2, rfl⟩ := zsto_double h
    exact lv_dstore_n hx hb hdec rfl hlv.has (zst2_spec h2).2.1 rfl (fun ls1 hl1 => kk H locs ls1 hR hS (zlv.st2 h2 hl1))
  | dstore k =>
    obtain rfl : len = 2 := beq_iff_eq.mp hlen
    obtain ⟨x, st1, L1, rfl, h2, rfl⟩ := zsto_double h
    exact lv_dstore hx hb hdec hlv.has (zst2_spec h2).2.1 rfl (fun ls1 hl1 => kk H locs ls1 hR hS (zlv.st2 h2 hl1))
  | aload_n k =>
    obtain rfl : len = 1 := beq_iff_eq.mp hlen
    obtain ⟨x, h1, rfl⟩ := zlod_ref h
    exact lv_aload_n hx hb hdec rfl (hlv.2.2 _ _ h1) (kk H locs ls hR hS hlv)
  | aload k =>
    obtain rfl : len = 2 := beq_iff_eq.mp hlen
    obtain ⟨x, h1, rfl⟩ := zlod_ref h
    exact lv_aload hx hb hdec (hlv.2.2 _ _ h1) (kk H locs ls hR hS hlv)
  | astore_n k =>
    obtain rfl : len = 1 := beq_iff_eq.mp hlen
    obtain ⟨x, st1, L1, rfl, h2, rfl⟩ := zsto_ref h
    exact lv_astore_n hx hb hdec rfl hlv.has (zst1_spec h2).2.1 rfl (fun ls1 hl1 => kk H locs ls1 hR hS (zlv.st1 h2 hl1))
  | astore k =>
    obtain rfl : len = 2 := beq_iff_eq.mp hlen
    obtain ⟨x, st1, L1, rfl, h2, rfl⟩ := zsto_ref h
    exact lv_astore hx hb hdec hlv.has (zst1_spec h2).2.1 rfl (fun ls1 hl1 => kk H locs ls1 hR hS (zlv.st1 h2 hl1))
  | iinc k n =>
    obtain rfl : len = 3 := beq_iff_eq.mp hlen
    dsimp only [zins] at h
    split at h
    · rename_i x hld
      split at h
      · rename_i L1 h2
        obtain rfl := zgo_inv h
        obtain ⟨j, hj⟩ := List.getElem?_of_mem (zass_mem.mpr (show zld L (k, Value.int x).1 = some (k, Value.int x).2 from hld))
        exact lv_iinc hx hb hdec hlv.has hj rfl (zst1_spec h2).2.1 rfl (fun ls1 hl1 => kk H locs ls1 hR hS (zlv.st1 h2 hl1))
      · cases h
    · cases h
  | iconst n =>
    obtain rfl : len = 1 := beq_iff_eq.mp hlen
    obtain rfl := zgo_inv h
    exact lv_iconst hx hb hdec rfl (kk H locs ls hR hS hlv)
  | bipush n =>
    obtain rfl : len = 2 := beq_iff_eq.mp hlen
    dsimp only [zins] at h
    split at h
    · rename_i hn1
      obtain rfl := zgo_inv h
      exact lv_bipush hx hb hdec (zI_byte hn1) (kk H locs ls hR hS hlv)
    · cases h
  | sipush n =>
    obtain rfl : len = 3 := beq_iff_eq.mp hlen
    dsimp only [zins] at h
    split at h
    · rename_i hn1
      obtain rfl := zgo_inv h
      exact lv_sipush hx hb hdec (zI_short hn1) (kk H locs ls hR hS hlv)
    · cases h
  | lconst n =>
    obtain rfl : len = 1 := beq_iff_eq.mp hlen
    obtain rfl := zgo_inv h
    exact lv_lconst hx hb hdec (by match n with | 0 => rfl | 1 => rfl) (kk H locs ls hR hS hlv)
  | fconst n =>
    obtain rfl : len = 1 := beq_iff_eq.mp hlen
    match n, hdec, h with
    | 0, hdec, h =>
      obtain rfl := zgo_inv h
      exact lv_fconst0 hx hb hdec (kk H locs ls hR hS hlv)
    | 1, hdec, h =>
      obtain rfl := zgo_inv h
      exact lv_fconst1 hx hb hdec (kk H locs ls hR hS hlv)
    | 2, hdec, h =>
      obtain rfl := zgo_inv h
      exact lv_fconst2 hx hb hdec (kk H locs ls hR hS hlv)
  | dconst n =>
    obtain rfl : len = 1 := beq_iff_eq.mp hlen
    match n, hdec, h with
    | 0, hdec, h =>
      obtain rfl := zgo_inv h
      exact lv_dconst0 hx hb hdec (kk H locs ls hR hS hlv)
    | 1, hdec, h =>
      obtain rfl := zgo_inv h
      exact lv_dconst1 hx hb hdec (kk H locs ls hR hS hlv)
  | ldc k =>
    obtain rfl : len = 2 := beq_iff_eq.mp hlen
    dsimp only [zins] at h
    split at h
    · rename_i v hcon
      obtain rfl := zgo_inv h
      exact lv_ldc hx hb hown (hts _ (zg (ztbl_mem zcons_ok _ (List.mem_map.mpr ⟨_, zcon_mem hcon, rfl⟩)) rfl)) hdec (kk H locs ls hR hS hlv)
    · rename_i v hcon
      obtain rfl := zgo_inv h
      exact lv_ldcf hx hb hown (hts _ (zg (ztbl_mem zcons_ok _ (List.mem_map.mpr ⟨_, zcon_mem hcon, rfl⟩)) rfl)) hdec (kk H locs ls hR hS hlv)
    · cases h
  | ldc_w k =>
    obtain rfl : len = 3 := beq_iff_eq.mp hlen
    dsimp only [zins] at h
    split at h
    · rename_i v hcon
      obtain rfl := zgo_inv h
      exact lv_ldcw hx hb hown (hts _ (zg (ztbl_mem zcons_ok _ (List.mem_map.mpr ⟨_, zcon_mem hcon, rfl⟩)) rfl)) hdec (kk H locs ls hR hS hlv)
    · rename_i v hcon
      obtain rfl := zgo_inv h
      exact zr_ldcwF hx hb hown (hts _ (zg (ztbl_mem zcons_ok _ (List.mem_map.mpr ⟨_, zcon_mem hcon, rfl⟩)) rfl)) hdec (kk H locs ls hR hS hlv)
    · cases h
  | ldc2_w k =>
    obtain rfl : len = 3 := beq_iff_eq.mp hlen
    dsimp only [zins] at h
    split at h
    · rename_i v hcon
      obtain rfl := zgo_inv h
      exact lv_ldc2 hx hb hown (hts _ (zg (ztbl_mem zcons_ok _ (List.mem_map.mpr ⟨_, zcon_mem hcon, rfl⟩)) rfl)) hdec (kk H locs ls hR hS hlv)
    · rename_i v hcon
      obtain rfl := zgo_inv h
      exact lv_ldc2d hx hb hown (hts _ (zg (ztbl_mem zcons_ok _ (List.mem_map.mpr ⟨_, zcon_mem hcon, rfl⟩)) rfl)) hdec (kk H locs ls hR hS hlv)
    · cases h
  | iadd =>
    obtain rfl : len = 1 := beq_iff_eq.mp hlen
    dsimp only [zins] at h
    obtain ⟨x, y, rest, v, rfl, hF1, rfl⟩ := zii_inv h
    cases hF1
    exact lv_iadd hx hb hdec (kk H locs ls hR hS hlv)
  | isub =>
    obtain rfl : len = 1 := beq_iff_eq.mp hlen
    dsimp only [zins] at h
    obtain ⟨x, y, rest, v, rfl, hF1, rfl⟩ := zii_inv h
    cases hF1
    exact lv_isub hx hb hdec (kk H locs ls hR hS hlv)
  | imul =>
    obtain rfl : len = 1 := beq_iff_eq.mp hlen
    dsimp only [zins] at h
    obtain ⟨x, y, rest, v, rfl, hF1, rfl⟩ := zii_inv h
    cases hF1
    exact lv_imul hx hb hdec (kk H locs ls hR hS hlv)
  | iand =>
    obtain rfl : len = 1 := beq_iff_eq.mp hlen
    dsimp only [zins] at h
    obtain ⟨x, y, rest, v, rfl, hF1, rfl⟩ := zii_inv h
    cases hF1
    exact lv_iand hx hb hdec (kk H locs ls hR hS hlv)
  | ior =>
    obtain rfl : len = 1 := beq_iff_eq.mp hlen
    dsimp only [zins] at h
    obtain ⟨x, y, rest, v, rfl, hF1, rfl⟩ := zii_inv h
    cases hF1
    exact lv_ior hx hb hdec (kk H locs ls hR hS hlv)
  | ishl =>
    obtain rfl : len = 1 := beq_iff_eq.mp hlen
    dsimp only [zins] at h
    obtain ⟨x, y, rest, v, rfl, hF1, rfl⟩ := zii_inv h
    cases hF1
    exact lv_ishl hx hb hdec (kk H locs ls hR hS hlv)
  | idiv =>
    obtain rfl : len = 1 := beq_iff_eq.mp hlen
    dsimp only [zins] at h
    obtain ⟨x, y, rest, v, rfl, hF1, rfl⟩ := zii_inv h
    split at hF1
    · cases hF1
    · cases hF1
      exact lv_idiv hx hb hdec (by assumption) (kk H locs ls hR hS hlv)
  | irem =>
    obtain rfl : len = 1 := beq_iff_eq.mp hlen
    dsimp only [zins] at h
    obtain ⟨x, y, rest, v, rfl, hF1, rfl⟩ := zii_inv h
    split at hF1
    · cases hF1
    · cases hF1
      exact lv_irem hx hb hdec (by assumption) (kk H locs ls hR hS hlv)
  | ldiv =>
    obtain rfl : len = 1 := beq_iff_eq.mp hlen
    dsimp only [zins] at h
    obtain ⟨x, y, rest, v, rfl, hF1, rfl⟩ := zjj_inv h
    split at hF1
    · cases hF1
    · cases hF1
      exact lv_ldiv hx hb hdec (by assumption) (kk H locs ls hR hS hlv)
  | lrem =>
    obtain rfl : len = 1 := beq_iff_eq.mp hlen
    dsimp only [zins] at h
    obtain ⟨x, y, rest, v, rfl, hF1, rfl⟩ := zjj_inv h
    split at hF1
    · cases hF1
    · cases hF1
      exact lv_lrem hx hb hdec (by assumption) (kk H locs ls hR hS hlv)
  | lmul =>
    obtain rfl : len = 1 := beq_iff_eq.mp hlen
    dsimp only [zins] at h
    obtain ⟨x, y, rest, v, rfl, hF1, rfl⟩ := zjj_inv h
    cases hF1
    exact lv_lmul hx hb hdec (kk H locs ls hR hS hlv)
  | land =>
    obtain rfl : len = 1 := beq_iff_eq.mp hlen
    dsimp only [zins] at h
    obtain ⟨x, y, rest, v, rfl, hF1, rfl⟩ := zjj_inv h
    cases hF1
    exact lv_land hx hb hdec (kk H locs ls hR hS hlv)
  | lor =>
    obtain rfl : len = 1 := beq_iff_eq.mp hlen
    dsimp only [zins] at h
    obtain ⟨x, y, rest, v, rfl, hF1, rfl⟩ := zjj_inv h
    cases hF1
    exact lv_lor hx hb hdec (kk H locs ls hR hS hlv)
  | lcmp =>
    obtain rfl : len = 1 := beq_iff_eq.mp hlen
    dsimp only [zins] at h
    obtain ⟨x, y, rest, v, rfl, hF1, rfl⟩ := zjj_inv h
    cases hF1
    exact W.lcmp hx hb hdec (kk H locs ls hR hS hlv)
  | lshl =>
    obtain rfl : len = 1 := beq_iff_eq.mp hlen
    dsimp only [zins] at h
    obtain ⟨x, y, rest, rfl, rfl⟩ := zji_inv h
    exact lv_lshl hx hb hdec rfl (kk H locs ls hR hS hlv)
  | lshr =>
    obtain rfl : len = 1 := beq_iff_eq.mp hlen
    dsimp only [zins] at h
    obtain ⟨x, y, rest, rfl, rfl⟩ := zji_inv h
    exact lv_lshr hx hb hdec rfl (kk H locs ls hR hS hlv)
  | lushr =>
    obtain rfl : len = 1 := beq_iff_eq.mp hlen
    dsimp only [zins] at h
    obtain ⟨x, y, rest, rfl, rfl⟩ := zji_inv h
    exact lv_lushr hx hb hdec rfl (kk H locs ls hR hS hlv)
  | ineg =>
    obtain rfl : len = 1 := beq_iff_eq.mp hlen
    dsimp only [zins] at h
    obtain ⟨v, rest, u, rfl, hF1, rfl⟩ := zun_inv h
    split at hF1
    · cases hF1
      exact lv_ineg hx hb hdec (kk H locs ls hR hS hlv)
    · cases hF1
  | i2l =>
    obtain rfl : len = 1 := beq_iff_eq.mp hlen
    dsimp only [zins] at h
    obtain ⟨v, rest, u, rfl, hF1, rfl⟩ := zun_inv h
    split at hF1
    · cases hF1
      exact lv_i2l hx hb hdec rfl (kk H locs ls hR hS hlv)
    · cases hF1
  | l2i =>
    obtain rfl : len = 1 := beq_iff_eq.mp hlen
    dsimp only [zins] at h
    obtain ⟨v, rest, u, rfl, hF1, rfl⟩ := zun_inv h
    split at hF1
    · cases hF1
      exact lv_l2i hx hb hdec rfl (kk H locs ls hR hS hlv)
    · cases hF1
  | i2b =>
    obtain rfl : len = 1 := beq_iff_eq.mp hlen
    dsimp only [zins] at h
    obtain ⟨v, rest, u, rfl, hF1, rfl⟩ := zun_inv h
    split at hF1
    · cases hF1
      exact lv_i2b hx hb hdec rfl (kk H locs ls hR hS hlv)
    · cases hF1
  | i2f =>
    obtain rfl : len = 1 := beq_iff_eq.mp hlen
    dsimp only [zins] at h
    obtain ⟨v, rest, u, rfl, hF1, rfl⟩ := zun_inv h
    split at hF1
    · cases hF1
      exact lv_i2f hx hb hdec (kk H locs ls hR hS hlv)
    · cases hF1
  | l2f =>
    obtain rfl : len = 1 := beq_iff_eq.mp hlen
    dsimp only [zins] at h
    obtain ⟨v, rest, u, rfl, hF1, rfl⟩ := zun_inv h
    split at hF1
    · cases hF1
      exact lv_l2f hx hb hdec (kk H locs ls hR hS hlv)
    · cases hF1
  | l2d =>
    obtain rfl : len = 1 := beq_iff_eq.mp hlen
    dsimp only [zins] at h
    obtain ⟨v, rest, u, rfl, hF1, rfl⟩ := zun_inv h
    split at hF1
    · cases hF1
      exact lv_l2d hx hb hdec (kk H locs ls hR hS hlv)
    · cases hF1
  | f2i =>
    obtain rfl : len = 1 := beq_iff_eq.mp hlen
    dsimp only [zins] at h
    obtain ⟨v, rest, u, rfl, hF1, rfl⟩ := zun_inv h
    split at hF1
    · cases hF1
      exact lv_f2i hx hb hdec (kk H locs ls hR hS hlv)
    · cases hF1
  | d2l =>
    obtain rfl : len = 1 := beq_iff_eq.mp hlen
    dsimp only [zins] at h
    obtain ⟨v, rest, u, rfl, hF1, rfl⟩ := zun_inv h
    split at hF1
    · cases hF1
      exact lv_d2l hx hb hdec (kk H locs ls hR hS hlv)
    · cases hF1
  | f2d =>
    obtain rfl : len = 1 := beq_iff_eq.mp hlen
    dsimp only [zins] at h
    obtain ⟨v, rest, u, rfl, hF1, rfl⟩ := zun_inv h
    split at hF1
    · obtain ⟨hne, rfl⟩ := znd_inv hF1
      exact lv_f2d hx hb hdec hne (kk H locs ls hR hS hlv)
    · cases hF1
  | fadd =>
    obtain rfl : len = 1 := beq_iff_eq.mp hlen
    dsimp only [zins] at h
    obtain ⟨x, y, rest, v, rfl, hF1, rfl⟩ := zff_inv h
    obtain ⟨hne, rfl⟩ := znf_inv hF1
    exact lv_fadd hx hb hdec hne (kk H locs ls hR hS hlv)
  | fsub =>
    obtain rfl : len = 1 := beq_iff_eq.mp hlen
    dsimp only [zins] at h
    obtain ⟨x, y, rest, v, rfl, hF1, rfl⟩ := zff_inv h
    obtain ⟨hne, rfl⟩ := znf_inv hF1
    exact lv_fsub hx hb hdec hne (kk H locs ls hR hS hlv)
  | fmul =>
    obtain rfl : len = 1 := beq_iff_eq.mp hlen
    dsimp only [zins] at h
    obtain ⟨x, y, rest, v, rfl, hF1, rfl⟩ := zff_inv h
    obtain ⟨hne, rfl⟩ := znf_inv hF1
    exact lv_fmul hx hb hdec hne (kk H locs ls hR hS hlv)
  | fdiv =>
    obtain rfl : len = 1 := beq_iff_eq.mp hlen
    dsimp only [zins] at h
    obtain ⟨x, y, rest, v, rfl, hF1, rfl⟩ := zff_inv h
    obtain ⟨hne, rfl⟩ := znf_inv hF1
    exact lv_fdiv hx hb hdec hne (kk H locs ls hR hS hlv)
  | dsub =>
    obtain rfl : len = 1 := beq_iff_eq.mp hlen
    dsimp only [zins] at h
    obtain ⟨x, y, rest, v, rfl, hF1, rfl⟩ := zdd_inv h
    obtain ⟨hne, rfl⟩ := znd_inv hF1
    exact lv_dsub hx hb hdec hne (kk H locs ls hR hS hlv)
  | dmul =>
    obtain rfl : len = 1 := beq_iff_eq.mp hlen
    dsimp only [zins] at h
    obtain ⟨x, y, rest, v, rfl, hF1, rfl⟩ := zdd_inv h
    obtain ⟨hne, rfl⟩ := znd_inv hF1
    exact lv_dmul hx hb hdec hne (kk H locs ls hR hS hlv)
  | ddiv =>
    obtain rfl : len = 1 := beq_iff_eq.mp hlen
    dsimp only [zins] at h
    obtain ⟨x, y, rest, v, rfl, hF1, rfl⟩ := zdd_inv h
    obtain ⟨hne, rfl⟩ := znd_inv hF1
    exact lv_ddiv hx hb hdec hne (kk H locs ls hR hS hlv)
  | fcmp op =>
    obtain rfl : len = 1 := beq_iff_eq.mp hlen
    dsimp only [zins] at h
    obtain ⟨x, y, rest, v, rfl, hF1, rfl⟩ := zff_inv h
    cases hF1
    exact lv_fcmp hx hb hdec (kk H locs ls hR hS hlv)
  | dcmp op =>
    obtain rfl : len = 1 := beq_iff_eq.mp hlen
    dsimp only [zins] at h
    obtain ⟨x, y, rest, v, rfl, hF1, rfl⟩ := zdd_inv h
    cases hF1
    exact lv_dcmp hx hb hdec (kk H locs ls hR hS hlv)
  | dup =>
    obtain rfl : len = 1 := beq_iff_eq.mp hlen
    dsimp only [zins] at h
    split at h
    · obtain rfl := zgo_inv h
      exact lv_dup hx hb hdec rfl (kk H locs ls hR hS hlv)
    · obtain rfl := zgo_inv h
      exact lv_dup hx hb hdec rfl (kk H locs ls hR hS hlv)
    · cases h
  | dup2 =>
    obtain rfl : len = 1 := beq_iff_eq.mp hlen
    dsimp only [zins] at h
    split at h
    · obtain rfl := zgo_inv h
      exact lv_dup2_11 hx hb hdec rfl rfl (kk H locs ls hR hS hlv)
    · cases h
  | pop =>
    obtain rfl : len = 1 := beq_iff_eq.mp hlen
    dsimp only [zins] at h
    split at h
    · obtain rfl := zgo_inv h
      exact lv_pop hx hb hdec rfl (kk H locs ls hR hS hlv)
    · cases h
  | ifCond cond off =>
    obtain rfl : len = 3 := beq_iff_eq.mp hlen
    dsimp only [zins] at h
    split at h
    · split at h
      · obtain ⟨t, ht, h1, h2⟩ := zbr_inv h
        exact lv_if_eq hx hb hdec ht (fun hp => by have e := h1 hp; subst e; exact kk H locs ls hR hS hlv) (fun hp => by have e := h2 hp; subst e; exact kk H locs ls hR hS hlv)
      · obtain ⟨t, ht, h1, h2⟩ := zbr_inv h
        exact lv_if_ne hx hb hdec ht (fun hp => by have e := h1 hp; subst e; exact kk H locs ls hR hS hlv) (fun hp => by have e := h2 (fun q => q hp); subst e; exact kk H locs ls hR hS hlv)
      · obtain ⟨t, ht, h1, h2⟩ := zbr_inv h
        exact lv_if_lt hx hb hdec ht (fun hp => by have e := h1 hp; subst e; exact kk H locs ls hR hS hlv) (fun hp => by have e := h2 hp; subst e; exact kk H locs ls hR hS hlv)
      · obtain ⟨t, ht, h1, h2⟩ := zbr_inv h
        exact lv_if_ge hx hb hdec ht (fun hp => by have e := h1 hp; subst e; exact kk H locs ls hR hS hlv) (fun hp => by have e := h2 hp; subst e; exact kk H locs ls hR hS hlv)
      · obtain ⟨t, ht, h1, h2⟩ := zbr_inv h
        exact lv_if_gt hx hb hdec ht (fun hp => by have e := h1 hp; subst e; exact kk H locs ls hR hS hlv) (fun hp => by have e := h2 hp; subst e; exact kk H locs ls hR hS hlv)
      · obtain ⟨t, ht, h1, h2⟩ := zbr_inv h
        exact lv_if_le hx hb hdec ht (fun hp => by have e := h1 hp; subst e; exact kk H locs ls hR hS hlv) (fun hp => by have e := h2 hp; subst e; exact kk H locs ls hR hS hlv)
    · cases h
  | if_icmp cond off =>
    obtain rfl : len = 3 := beq_iff_eq.mp hlen
    dsimp only [zins] at h
    split at h
    · split at h
      · obtain ⟨t, ht, h1, h2⟩ := zbr_inv h
        exact lv_icmp_eq hx hb hdec ht (fun hp => by have e := h1 hp; subst e; exact kk H locs ls hR hS hlv) (fun hp => by have e := h2 hp; subst e; exact kk H locs ls hR hS hlv)
      · obtain ⟨t, ht, h1, h2⟩ := zbr_inv h
        exact lv_icmp_ne hx hb hdec ht (fun hp => by have e := h1 hp; subst e; exact kk H locs ls hR hS hlv) (fun hp => by have e := h2 (fun q => q hp); subst e; exact kk H locs ls hR hS hlv)
      · obtain ⟨t, ht, h1, h2⟩ := zbr_inv h
        exact lv_icmp_lt hx hb hdec ht (fun hp => by have e := h1 hp; subst e; exact kk H locs ls hR hS hlv) (fun hp => by have e := h2 hp; subst e; exact kk H locs ls hR hS hlv)
      · obtain ⟨t, ht, h1, h2⟩ := zbr_inv h
        exact lv_icmp_ge hx hb hdec ht (fun hp => by have e := h1 hp; subst e; exact kk H locs ls hR hS hlv) (fun hp => by have e := h2 hp; subst e; exact kk H locs ls hR hS hlv)
      · obtain ⟨t, ht, h1, h2⟩ := zbr_inv h
        exact lv_icmp_gt hx hb hdec ht (fun hp => by have e := h1 hp; subst e; exact kk H locs ls hR hS hlv) (fun hp => by have e := h2 hp; subst e; exact kk H locs ls hR hS hlv)
      · obtain ⟨t, ht, h1, h2⟩ := zbr_inv h
        exact lv_icmp_le hx hb hdec ht (fun hp => by have e := h1 hp; subst e; exact kk H locs ls hR hS hlv) (fun hp => by have e := h2 hp; subst e; exact kk H locs ls hR hS hlv)
    · cases h
  | goto off =>
    obtain rfl : len = 3 := beq_iff_eq.mp hlen
    obtain ⟨t, ht, rfl⟩ := zjump_inv h
    exact lv_goto hx hb hdec ht (kk H locs ls hR hS hlv)
  | tableswitch dv lo hi offs =>
    dsimp only [zins] at h
    split at h
    · split at h
      · rename_i hcond
        obtain ⟨t, ht, rfl⟩ := zjump_inv h
        exact lv_tableOut hx hb hdec hcond ht (kk H locs ls hR hS hlv)
      · rename_i hcond
        split at h
        · rename_i off hoff
          obtain ⟨t, ht, rfl⟩ := zjump_inv h
          exact lv_tableIn hx hb hdec (fun q => hcond (Or.inl q)) (fun q => hcond (Or.inr q)) hoff ht (kk H locs ls hR hS hlv)
        · cases h
    · cases h
  | lookupswitch dv ps =>
    dsimp only [zins] at h
    split at h
    · split at h
      · rename_i hcond
        obtain ⟨t, ht, rfl⟩ := zjump_inv h
        exact lv_lookup hx hb hdec hcond rfl ht (kk H locs ls hR hS hlv)
      · cases h
    · cases h
  | getfield idx =>
    obtain rfl : len = 3 := beq_iff_eq.mp hlen
    dsimp only [zins] at h
    split at h
    · rename_i ci k hfl
      split at h
      · rename_i a st1
        obtain ⟨fs, v, e1, e2, e3⟩ := zget_inv h
        obtain rfl := zgo_inv e3
        have hq := List.all_eq_true.mp zfls_ok2 _ (zfl_mem hfl)
        simp only [Bool.and_eq_true, decide_eq_true_eq] at hq
        obtain ⟨⟨q1, q2⟩, q3⟩ := hq
        have hw := ztbl_mem zfls_ok (zflW (own, idx, ci, k)) (List.mem_map.mpr ⟨_, zfl_mem hfl, rfl⟩)
        obtain ⟨hba, hat⟩ := zat_obj (hR.2.2 a _ e1)
        exact va_get hx hb hts (zws_okG ci q1) hown hK (zP1 hat) 0 rfl (zvw ci q1) k q2 (hts _ (zg hw rfl)) (fun _ h9 => h9) e2 hdec (kk H locs ls hR hS hlv)
      · cases h
    · cases h
  | putfield idx =>
    obtain rfl : len = 3 := beq_iff_eq.mp hlen
    dsimp only [zins] at h
    split at h
    · rename_i ci k hfl
      split at h
      · rename_i v a st1
        split at h
        · rename_i hcond
          obtain ⟨c1, c2, c3⟩ := hcond
          obtain ⟨fs, e1, e2, e3⟩ := zput_inv h
          obtain rfl := zgo_inv e3
          have hq := List.all_eq_true.mp zfls_ok2 _ (zfl_mem hfl)
          simp only [Bool.and_eq_true, decide_eq_true_eq] at hq
          obtain ⟨⟨q1, q2⟩, q3⟩ := hq
          have hw := ztbl_mem zfls_ok (zflW (own, idx, ci, k)) (List.mem_map.mpr ⟨_, zfl_mem hfl, rfl⟩)
          exact zr_put hx hb q1 q2 hts hown hK hR e1 e2 (hts _ (zg hw rfl)) (by rcases c3 with c3 | ⟨c3, rfl⟩; exact Or.inl c3; exact Or.inr ⟨hctor c3, q3⟩) c2 c1 hS hdec (fun H1 locs1 hR1 hS1 => kk H1 locs1 ls hR1 hS1 hlv)
        · cases h
      · cases h
    · cases h
  | iaload =>
    obtain rfl : len = 1 := beq_iff_eq.mp hlen
    dsimp only [zins] at h
    split at h
    · rename_i i a st1
      obtain ⟨u, n, f, e1, e2, e3, e4⟩ := zil_inv h
      obtain rfl := zgo_inv e4
      by_cases hu : u = 0
      · subst hu
        obtain ⟨hba, hcell⟩ := zat_arr (by decide) (hR.2.2 a _ e1)
        exact va_iald hx hb hK (zP1 (q := (a, .inl (dA 0, n, .inl f))) hcell) 0 0 rfl rfl (zin_in e3) hdec (kk H locs ls hR hS hlv)
      · have hu9 : u = 9 := by omega
        subst hu9
        have hX : a < base ∧ va_X a n f s H := hR.2.2 a _ e1
        exact va_sld (A := fun q => base ≤ q) (H0 := H) hx hb hX.2 (Nat.lt_of_lt_of_le hX.1 (by rw [hR.1]; exact hR.2.1)) (Nat.not_le.mpr hX.1) ⟨Nat.le_refl _, fun _ _ _ => rfl, hS.2.2⟩ (zin_in e3) hdec (kk H locs ls hR hS hlv)
    · cases h
  | baload =>
    obtain rfl : len = 1 := beq_iff_eq.mp hlen
    dsimp only [zins] at h
    split at h
    · rename_i i a st1
      obtain ⟨u, n, f, e1, e2, e3, e4⟩ := zil_inv h
      obtain rfl := zgo_inv e4
      have hu : u = 3 := by omega
      subst hu
      obtain ⟨hba, hcell⟩ := zat_arr (by decide) (hR.2.2 a _ e1)
      exact va_bald hx hb hK (zP1 (q := (a, .inl (dA 3, n, .inl f))) hcell) 0 3 rfl rfl (zin_in e3) hdec (kk H locs ls hR hS hlv)
    · cases h
  | laload =>
    obtain rfl : len = 1 := beq_iff_eq.mp hlen
    dsimp only [zins] at h
    split at h
    · rename_i i a st1
      obtain ⟨n, f, e1, e3, e4⟩ := zll_inv h
      obtain rfl := zgo_inv e4
      obtain ⟨hba, hcell⟩ := zat_arr (by decide) (hR.2.2 a _ e1)
      exact va_lald hx hb hK (zP1 (q := (a, .inl (dA 1, n, .inr (.inl f)))) hcell) 0 1 rfl rfl (zin_in e3) hdec (kk H locs ls hR hS hlv)
    · cases h
  | faload =>
    obtain rfl : len = 1 := beq_iff_eq.mp hlen
    dsimp only [zins] at h
    split at h
    · rename_i i a st1
      obtain ⟨n, f, e1, e3, e4⟩ := zfll_inv h
      obtain rfl := zgo_inv e4
      obtain ⟨hba, hcell⟩ := zat_arr (by decide) (hR.2.2 a _ e1)
      exact va_fald hx hb hK (zP1 (q := (a, .inl (dA 2, n, .inr (.inr (.inl f))))) hcell) 0 2 rfl rfl (zin_in e3) hdec (kk H locs ls hR hS hlv)
    · cases h
  | aaload =>
    obtain rfl : len = 1 := beq_iff_eq.mp hlen
    dsimp only [zins] at h
    split at h
    · rename_i i a st1
      obtain ⟨u, n, f, x, e1, e2, e3, e5, e4⟩ := zal_inv h
      obtain rfl := zgo_inv e4
      rcases e2 with rfl | rfl
      · obtain ⟨hba, hcell⟩ := zat_arr (by decide) (hR.2.2 a _ e1)
        refine va_aldq hx hb hK (zP1 (q := (a, .inl (dA 4, n, .inr (.inr (.inr (.inr f)))))) hcell) 0 4 rfl rfl (zin_in e3) hdec ?_
        rw [e5]
        exact kk H locs ls hR hS hlv
      · obtain ⟨hba, hcell⟩ := zat_arr (by decide) (hR.2.2 a _ e1)
        refine va_aldq hx hb hK (zP1 (q := (a, .inl (dA 5, n, .inr (.inr (.inr (.inr f)))))) hcell) 0 5 rfl rfl (zin_in e3) hdec ?_
        rw [e5]
        exact kk H locs ls hR hS hlv
    · cases h
  | iastore =>
    obtain rfl : len = 1 := beq_iff_eq.mp hlen
    dsimp only [zins] at h
    split at h
    · rename_i x i a st1
      obtain ⟨n, f, e1, e3, e4⟩ := zis_inv h
      obtain rfl := zgo_inv e4
      exact zr_iast hx hb hK hR hS e1 (zin_in e3) hdec (fun H1 locs1 hR1 hS1 => kk H1 locs1 ls hR1 hS1 hlv)
    · cases h
  | bastore =>
    obtain rfl : len = 1 := beq_iff_eq.mp hlen
    dsimp only [zins] at h
    split at h
    · rename_i x i a st1
      obtain ⟨n, f, e1, e3, e4⟩ := zis_inv h
      obtain rfl := zgo_inv e4
      exact zr_bast hx hb hK hR hS e1 (zin_in e3) hdec (fun H1 locs1 hR1 hS1 => kk H1 locs1 ls hR1 hS1 hlv)
    · cases h
  | lastore =>
    obtain rfl : len = 1 := beq_iff_eq.mp hlen
    dsimp only [zins] at h
    split at h
    · rename_i x i a st1
      obtain ⟨n, f, e1, e3, e4⟩ := zls_inv h
      obtain rfl := zgo_inv e4
      exact zr_last hx hb hK hR hS e1 (zin_in e3) hdec (fun H1 locs1 hR1 hS1 => kk H1 locs1 ls hR1 hS1 hlv)
    · cases h
  | fastore =>
    obtain rfl : len = 1 := beq_iff_eq.mp hlen
    dsimp only [zins] at h
    split at h
    · rename_i x i a st1
      obtain ⟨n, f, e1, e3, e4⟩ := zfs_inv h
      obtain rfl := zgo_inv e4
      exact zr_fast hx hb hK hR hS e1 (zin_in e3) hdec (fun H1 locs1 hR1 hS1 => kk H1 locs1 ls hR1 hS1 hlv)
    · cases h
  | aastore =>
    obtain rfl : len = 1 := beq_iff_eq.mp hlen
    dsimp only [zins] at h
    split at h
    · rename_i x i a st1
      obtain ⟨u, n, ec, f, vs, e1, e2, e5, e3, e4⟩ := zas_inv h
      obtain rfl := zgo_inv e4
      exact zr_astq hx hb hK hR hS e1 e2 e5 (zin_in e3) hdec (fun H1 locs1 hR1 hS1 => kk H1 locs1 ls hR1 hS1 hlv)
    · cases h
  | arraylength =>
    obtain rfl : len = 1 := beq_iff_eq.mp hlen
    dsimp only [zins] at h
    split at h
    · rename_i a st1
      obtain ⟨u, y, e1, e2, e4⟩ := zlen_inv h
      obtain rfl := zgo_inv e4
      by_cases hu : u < 6
      · obtain ⟨hba, hcell⟩ := zat_arr hu (hR.2.2 a _ e1)
        have key : ∀ ty, (zty dA)[u]? = some (dA u, ty) → W p l e R s m args below meth c H locs (w.1.1 - n0) (w.1.2 - m0) Q (F0 m pc ls (.ref a :: st1)) := fun ty hty => va_alen hx hb hK (zP1 (q := (a, .inl (dA u, y))) hcell) 0 u rfl hty rfl hdec (kk H locs ls hR hS hlv)
        match u, hu, key with
        | 0, _, key => exact key _ rfl
        | 1, _, key => exact key _ rfl
        | 2, _, key => exact key _ rfl
        | 3, _, key => exact key _ rfl
        | 4, _, key => exact key _ rfl
        | 5, _, key => exact key _ rfl
        | u + 6, hu, _ => omega
      · rcases e2 with e2 | ⟨rfl, f, hf⟩
        · exact absurd e2 hu
        · obtain ⟨n, y⟩ := y
          dsimp only at hf
          subst hf
          have hX : a < base ∧ va_X a n f s H := hR.2.2 a _ e1
          exact va_slen (A := fun q => base ≤ q) (H0 := H) hx hb hX.2 (Nat.lt_of_lt_of_le hX.1 (by rw [hR.1]; exact hR.2.1)) (Nat.not_le.mpr hX.1) ⟨Nat.le_refl _, fun _ _ _ => rfl, hS.2.2⟩ hdec (kk H locs ls hR hS hlv)
    · cases h
  | newarray t =>
    obtain rfl : len = 2 := beq_iff_eq.mp hlen
    dsimp only [zins] at h
    split at h
    · rename_i n st1
      split at h
      · rename_i hbd
        have hng : ¬ n < 0 := fun q => by have q1 := Int32.lt_iff_toInt_lt.mp q; have e0 : (0 : Int32).toInt = 0 := rfl; omega
        have hnn : n.toNatClampNeg ≤ 10000 := by show n.toInt.toNat ≤ 10000; omega
        cases t with
        | int =>
          obtain rfl := zgo_inv h
          have e1 : (w.1.1 + 1) - n0 = w.1.1 - n0 + 1 := by omega
          have e2 : (w.1.2 + n.toNatClampNeg) - m0 = w.1.2 - m0 + n.toNatClampNeg := by omega
          dsimp only [znew] at hc kk
          rw [e1, e2] at hc kk
          exact zr_newa (u := 0) (ty := .int) (x := (n.toNatClampNeg, .inl (fun _ => 0))) hx hb (hts _ (zarrw 0 rfl)) rfl rfl (by decide) hK hR hS (fun cA => rfl) hng (by simp only [componentBytes]; omega) hc.1 hc.2 hdec (fun H1 hR1 hS1 => kk H1 locs ls hR1 hS1 hlv)
        | long =>
          obtain rfl := zgo_inv h
          have e1 : (w.1.1 + 1) - n0 = w.1.1 - n0 + 1 := by omega
          have e2 : (w.1.2 + n.toNatClampNeg) - m0 = w.1.2 - m0 + n.toNatClampNeg := by omega
          dsimp only [znew] at hc kk
          rw [e1, e2] at hc kk
          exact zr_newa (u := 1) (ty := .long) (x := (n.toNatClampNeg, .inr (.inl (fun _ => 0)))) hx hb (hts _ (zarrw 1 rfl)) rfl rfl (by decide) hK hR hS (fun cA => rfl) hng (by simp only [componentBytes]; omega) hc.1 hc.2 hdec (fun H1 hR1 hS1 => kk H1 locs ls hR1 hS1 hlv)
        | float =>
          obtain rfl := zgo_inv h
          have e1 : (w.1.1 + 1) - n0 = w.1.1 - n0 + 1 := by omega
          have e2 : (w.1.2 + n.toNatClampNeg) - m0 = w.1.2 - m0 + n.toNatClampNeg := by omega
          dsimp only [znew] at hc kk
          rw [e1, e2] at hc kk
          exact zr_newa (u := 2) (ty := .float) (x := (n.toNatClampNeg, .inr (.inr (.inl (fun _ => 0))))) hx hb (hts _ (zarrw 2 rfl)) rfl rfl (by decide) hK hR hS (fun cA => rfl) hng (by simp only [componentBytes]; omega) hc.1 hc.2 hdec (fun H1 hR1 hS1 => kk H1 locs ls hR1 hS1 hlv)
        | byte =>
          obtain rfl := zgo_inv h
          have e1 : (w.1.1 + 1) - n0 = w.1.1 - n0 + 1 := by omega
          have e2 : (w.1.2 + n.toNatClampNeg) - m0 = w.1.2 - m0 + n.toNatClampNeg := by omega
          dsimp only [znew] at hc kk
          rw [e1, e2] at hc kk
          exact zr_newa (u := 3) (ty := .byte) (x := (n.toNatClampNeg, .inl (fun _ => 0))) hx hb (hts _ (zarrw 3 rfl)) rfl rfl (by decide) hK hR hS (fun cA => rfl) hng (by simp only [componentBytes]; omega) hc.1 hc.2 hdec (fun H1 hR1 hS1 => kk H1 locs ls hR1 hS1 hlv)
        | _ => cases h
      · cases h
    · cases h
  | anewarray idx =>
    obtain rfl : len = 3 := beq_iff_eq.mp hlen
    dsimp only [zins] at h
    split at h
    · rename_i n st1
      split at h
      · rename_i hbd
        have hng : ¬ n < 0 := fun q => by have q1 := Int32.lt_iff_toInt_lt.mp q; have e0 : (0 : Int32).toInt = 0 := rfl; omega
        have hnn : n.toNatClampNeg ≤ 10000 := by show n.toInt.toNat ≤ 10000; omega
        have e1 : (w.1.1 + 1) - n0 = w.1.1 - n0 + 1 := by omega
        have e2 : (w.1.2 + n.toNatClampNeg) - m0 = w.1.2 - m0 + n.toNatClampNeg := by omega
        split at h
        · rename_i hcl
          obtain rfl := zgo_inv h
          have hw : Cond.classLink (zR own) idx (zR 3) ∈ lw_tbl := ztbl_mem zcls_ok _ (List.mem_map.mpr ⟨_, zcl_mem hcl, rfl⟩)
          dsimp only [znew] at hc kk
          rw [e1, e2] at hc kk
          exact zr_newq (u := 4) (C := RX3) hx hb hown (hts _ (zg hw rfl)) hKS.2.2.1 rfl (by decide) hK hR hS hng (by omega) hc.1 hc.2 hdec (fun H1 hR1 hS1 => kk H1 locs ls hR1 hS1 hlv)
        · rename_i hcl
          obtain rfl := zgo_inv h
          have hw : Cond.classLink (zR own) idx (zR 8) ∈ lw_tbl := ztbl_mem zcls_ok _ (List.mem_map.mpr ⟨_, zcl_mem hcl, rfl⟩)
          dsimp only [znew] at hc kk
          rw [e1, e2] at hc kk
          exact zr_newq (u := 5) (C := RX8) hx hb hown (hts _ (zg hw rfl)) hKS.2.2.2 rfl (by decide) hK hR hS hng (by omega) hc.1 hc.2 hdec (fun H1 hR1 hS1 => kk H1 locs ls hR1 hS1 hlv)
        · cases h
      · cases h
    · cases h
  | new idx =>
    obtain rfl : len = 3 := beq_iff_eq.mp hlen
    dsimp only [zins] at h
    split at h
    · rename_i ci hcl
      split at h
      · rename_i fs hfs
        obtain rfl := zgo_inv h
        have hq := List.all_eq_true.mp zcls_ok2 _ (zcl_mem hcl)
        simp only [Bool.and_eq_true, decide_eq_true_eq] at hq
        have hci : ci < 13 := hq.1
        have hw : Cond.classLink (zR own) idx (zR ci) ∈ lw_tbl := ztbl_mem zcls_ok _ (List.mem_map.mpr ⟨_, zcl_mem hcl, rfl⟩)
        obtain ⟨hini, -, -⟩ := zown (zR_mem ci (Or.inl hci)) (by omega)
        have e1 : (w.1.1 + 1) - n0 = w.1.1 - n0 + 1 := by omega
        have e2 : (w.1.2 + fs.length) - m0 = w.1.2 - m0 + fs.length := by omega
        dsimp only [znew] at hc kk
        rw [e1, e2] at hc kk
        exact zr_new hx hb hci hts hown (hts _ (zg hw rfl)) (hts _ (zg hq.2 rfl)) (hts _ (zg hini rfl)) hK hR hS hfs hc.1 hc.2 hdec (fun H1 hR1 hS1 => kk H1 locs ls hR1 hS1 hlv)
      · cases h
    · cases h
  | invokevirtual idx =>
    obtain rfl : len = 3 := beq_iff_eq.mp hlen
    exact z_callV C hml hR hS hlv hdec h hn hc kk
  | invokestatic idx =>
    obtain rfl : len = 3 := beq_iff_eq.mp hlen
    exact z_callS C hml hR hS hlv hdec h hn hc kk
  | invokespecial idx =>
    obtain rfl : len = 3 := beq_iff_eq.mp hlen
    exact z_callI C hml hR hS hlv hdec h hn hc kk
  | ireturn =>
    dsimp only [zins] at h
    split at h
    · split at h
      · cases h
      · cases h
    · cases h
  | lreturn =>
    dsimp only [zins] at h
    split at h
    · split at h
      · cases h
      · cases h
    · cases h
  | freturn =>
    dsimp only [zins] at h
    split at h
    · split at h
      · cases h
      · cases h
    · cases h
  | return_ =>
    dsimp only [zins] at h
    split at h
    · split at h
      · cases h
      · cases h
    · cases h
  | _ => cases h
end ZINS
