/-! ===== the pure worlds over heaps ===== -/
theorem zchunk {q : zMT} {C : List zMT} {P : List Nat} (h : C.map (fun q => Cond.code q.1.1 q.1.2.1 q.1.2.2.1 q.1.2.2.2) = P.filterMap (fun i => tables_1[i]?)) (hq : q ∈ C) : Cond.code q.1.1 q.1.2.1 q.1.2.2.1 q.1.2.2.2 ∈ lw_tbl := by
  have h1 : Cond.code q.1.1 q.1.2.1 q.1.2.2.1 q.1.2.2.2 ∈ C.map (fun q => Cond.code q.1.1 q.1.2.1 q.1.2.2.1 q.1.2.2.2) := List.mem_map.mpr ⟨q, hq, rfl⟩
  rw [h] at h1
  obtain ⟨i, -, hi⟩ := List.mem_filterMap.mp h1
  exact List.mem_append_right _ (List.mem_of_getElem? hi)
theorem zm_code {q : zMT} (h : q ∈ zMeths) : Cond.code q.1.1 q.1.2.1 q.1.2.2.1 q.1.2.2.2 ∈ lw_tbl := by
  unfold zMeths at h
  simp only [List.mem_append] at h
  rcases h with h | h | h | h | h | h | h | h | h | h
  · exact zchunk zm_code_0 h
  · exact zchunk zm_code_1 h
  · exact zchunk zm_code_2 h
  · exact zchunk zm_code_3 h
  · exact zchunk zm_code_4 h
  · exact zchunk zm_code_5 h
  · exact zchunk zm_code_6 h
  · exact zchunk zm_code_7 h
  · exact zchunk zm_code_8 h
  · exact zchunk zm_code_9 h
theorem zg {w : Cond} (h : w ∈ lw_tbl) (hg : goodWord w = true) : w ∈ lw_good := List.mem_filter.mpr ⟨h, hg⟩
theorem zown {own : Nat} {nm : String} (h : (own, nm) ∈ zOwns) (hn : own ≠ 13) : Cond.initialized nm ∈ lw_tbl ∧ nm ≠ "java/lang/invoke/MethodHandle" ∧ nm ≠ "java/lang/invoke/VarHandle" := by
  have hf : (own, nm) ∈ zOwns.filter (fun q => q.1 != 13) := List.mem_filter.mpr ⟨h, by simpa using hn⟩
  refine ⟨?_, ?_, ?_⟩
  · exact of_decide_eq_true (List.all_eq_true.mp zinit0 _ hf)
  · exact of_decide_eq_true (List.all_eq_true.mp zowns_ok2 _ hf)
  · exact of_decide_eq_true (List.all_eq_true.mp zowns_ok3 _ hf)
theorem zR_mem (own : Nat) (h : own < 13 ∨ 20 ≤ own ∧ own < 24) : (own, zR own) ∈ zOwns := by
  have hx : ∀ o : Nat, o < 24 → (o < 13 ∨ 20 ≤ o ∧ o < 24) → (o, zR o) ∈ zOwns := by decide +kernel
  exact hx own (by omega) h
/-- what is known of a method of the table -/
theorem zm_facts {q : zMT} (h : q ∈ zMeths) : Cond.initialized q.1.1.cls ∈ lw_tbl ∧ (q.1.1.cls ≠ "java/lang/invoke/MethodHandle" ∧ q.1.1.cls ≠ "java/lang/invoke/VarHandle") ∧ q.1.1.cls = zR q.2.1 ∧ (parseMethodDescriptor q.1.1.desc).map (fun d => d.parameters.length) = some q.2.2.1 ∧ q.1.2.2.1 ≤ 10 ∧ q.2.2.2.1 ≤ 3 := by
  have h2 := List.all_eq_true.mp zmeths_ok2 _ h
  simp only [zmOk2, Bool.and_eq_true, decide_eq_true_eq] at h2
  obtain ⟨⟨⟨⟨h3, h4⟩, h5⟩, h6⟩, h7⟩ := h2
  obtain ⟨a, b, c⟩ := zown (zR_mem _ h4) (by omega)
  rw [h3]
  exact ⟨a, ⟨b, c⟩, rfl, h5, h6, h7⟩
theorem zm_facts3 {q : zMT} (h : q ∈ zMeths) : q.2.2.2.2 ≤ 5 ∧ q.1.2.2.2 = ([none, some .int, some .boolean, some .long, some .float, none] : List (Option FieldType)).getD q.2.2.2.2 none ∧ (q.2.2.2.1 = 2 → q.1.1.name = "<init>" ∧ q.2.2.2.2 = 5) ∧ (q.2.2.2.1 ≠ 2 → q.2.2.2.2 ≠ 5) ∧ (q.2.2.2.1 ≠ 0 → q.2.1 < 13) := by
  have h2 := List.all_eq_true.mp zmeths_ok3 _ h
  simp only [zmOk3, Bool.and_eq_true, decide_eq_true_eq] at h2
  obtain ⟨⟨⟨h3, h4⟩, h5⟩, h6⟩ := h2
  refine ⟨h3, h4, fun e => ?_, fun e => ?_, fun e => ?_⟩
  · rw [if_pos e] at h5
    simpa using h5
  · rw [if_neg e] at h5
    simpa using h5
  · rw [if_neg e] at h6
    simpa using h6
theorem zm_static {q : zMT} (h : q ∈ zMeths) (hk : q.2.2.2.1 = 0) : Cond.static q.1.1 ∈ lw_tbl :=
  ztbl_mem zm_stat0 _ (List.mem_map.mpr ⟨q, List.mem_filter.mpr ⟨h, by simpa using hk⟩, rfl⟩)
theorem zm_inst {q : zMT} (h : q ∈ zMeths) (hk : q.2.2.2.1 ≠ 0) : Cond.instanceMethod q.1.1 ∈ lw_tbl :=
  ztbl_mem zm_inst0 _ (List.mem_map.mpr ⟨q, List.mem_filter.mpr ⟨h, by simpa using hk⟩, rfl⟩)
theorem zm_sel {q : zMT} (h : q ∈ zMeths) (hk : q.2.2.2.1 = 1 ∨ q.2.2.2.1 = 3) : Cond.selects q.1.1.cls q.1.1 q.1.1 ∈ lw_tbl := by
  rcases hk with hk | hk
  · exact ztbl_mem zm_sel0 _ (List.mem_map.mpr ⟨q, List.mem_filter.mpr ⟨h, by simpa using hk⟩, rfl⟩)
  · exact List.mem_append_left _ (zsub_mem zm_sel1 _ (List.mem_map.mpr ⟨q, List.mem_filter.mpr ⟨h, by simpa using hk⟩, rfl⟩))
theorem zlk_mem {own idx : Nat} {x : Nat × Nat} (h : zlk own idx = some x) : (own, idx, x) ∈ zLks := by
  unfold zlk at h
  obtain ⟨q, hq, rfl⟩ := Option.map_eq_some_iff.mp h
  have h1 := List.find?_some hq
  have h2 := List.mem_of_find?_eq_some hq
  simp only [Bool.and_eq_true, beq_iff_eq] at h1
  obtain ⟨a, b, c⟩ := q
  obtain ⟨rfl, rfl⟩ := h1
  exact h2
theorem zfl_mem {own idx : Nat} {x : Nat × Nat} (h : zfl own idx = some x) : (own, idx, x) ∈ zFls := by
  unfold zfl at h
  obtain ⟨q, hq, rfl⟩ := Option.map_eq_some_iff.mp h
  have h1 := List.find?_some hq
  have h2 := List.mem_of_find?_eq_some hq
  simp only [Bool.and_eq_true, beq_iff_eq] at h1
  obtain ⟨a, b, c⟩ := q
  obtain ⟨rfl, rfl⟩ := h1
  exact h2
theorem zcon_mem {own idx : Nat} {x : Value} (h : zcon own idx = some x) : (own, idx, x) ∈ zCons := by
  unfold zcon at h
  obtain ⟨q, hq, rfl⟩ := Option.map_eq_some_iff.mp h
  have h1 := List.find?_some hq
  have h2 := List.mem_of_find?_eq_some hq
  simp only [Bool.and_eq_true, beq_iff_eq] at h1
  obtain ⟨a, b, c⟩ := q
  obtain ⟨rfl, rfl⟩ := h1
  exact h2
theorem zcl_mem {own idx : Nat} {x : Nat} (h : zcl own idx = some x) : (own, idx, x) ∈ zCls := by
  unfold zcl at h
  obtain ⟨q, hq, rfl⟩ := Option.map_eq_some_iff.mp h
  have h1 := List.find?_some hq
  have h2 := List.mem_of_find?_eq_some hq
  simp only [Bool.and_eq_true, beq_iff_eq] at h1
  obtain ⟨a, b, c⟩ := q
  obtain ⟨rfl, rfl⟩ := h1
  exact h2
theorem zws_okG (ci : Nat) (h : ci < 13) : ∀ w ∈ u_ws (zR ci) (zT ci) (zN ci), w ∈ lw_good := by
  intro w hw
  refine zg (zws_ok ci h w hw) ?_
  unfold u_ws at hw
  obtain ⟨k, -, rfl⟩ := List.mem_map.mp hw
  unfold u_lay
  split <;> rfl
/-- a pure cell as the kit's -/
def zre (dA : Nat → ClassId) (c : zC) : va_E := match c with
  | .inl (u, x) => .inl (dA u, x)
  | .inr o => .inr o
/-- the script, which is read alone -/
def zscr (c : zC) : Option (Nat × (Nat → Int32)) := match c with
  | .inl (u, n, .inl f) => if u = 9 then some (n, f) else none
  | _ => none
def zat (D : va_G) (dA : Nat → ClassId) (base : Nat) (U : State) (a : Nat) (c : zC) (H : Heap) : Prop := match zscr c with
  | some (n, f) => a < base ∧ va_X a n f U H
  | none => base ≤ a ∧ va_at D vwCl (a, zre dA c) H
def zRel (D : va_G) (dA : Nat → ClassId) (base : Nat) (w : zW) (U : State) (H : Heap) : Prop :=
  H.size = w.1.1 ∧ base ≤ w.1.1 ∧ ∀ a c, w.2 a = some c → zat D dA base U a c H
abbrev zty (dA : Nat → ClassId) : List (ClassId × FieldType) := [(dA 0, .int), (dA 1, .long), (dA 2, .float), (dA 3, .byte), (dA 4, .object RX3), (dA 5, .object RX8)]
def zKS (D : va_G) (dA : Nat → ClassId) (U : State) : Prop := va_K D vwCl (zty dA) U ∧ (∀ (o : String) (i : Nat) (y : MethodName), Cond.methodLinkNest o i y "PerfumeOrgan" ∈ lw_tbl → va_Nw (.methodLinkNest o i y "PerfumeOrgan") U) ∧ va_AO RX3 U ∧ va_AO RX8 U
theorem zat.moved {D : va_G} {dA : Nat → ClassId} {base a : Nat} {u U : State} {c : zC} {H : Heap} (hvm : u.vm.Alike U.vm) (h : zat D dA base u a c H) : zat D dA base U a c H := by
  unfold zat at h ⊢
  split at h
  · exact ⟨h.1, h.2.moved hvm⟩
  · exact h
theorem zRel.moved {D : va_G} {dA : Nat → ClassId} {base : Nat} {u U : State} {w : zW} {H : Heap} (hvm : u.vm.Alike U.vm) (h : zRel D dA base w u H) : zRel D dA base w U H := ⟨h.1, h.2.1, fun a c hc => (h.2.2 a c hc).moved hvm⟩
theorem zat.kept {D : va_G} {dA : Nat → ClassId} {base a : Nat} {U : State} {c : zC} {H H1 : Heap} (hq : H1[a]? = H[a]?) (h : zat D dA base U a c H) : zat D dA base U a c H1 := by
  unfold zat at h ⊢
  split at h
  · exact ⟨h.1, h.2.kept hq⟩
  · exact ⟨h.1, h.2.kept hq⟩
theorem zat.lt {D : va_G} {dA : Nat → ClassId} {base a : Nat} {U : State} {c : zC} {H : Heap} (h : zat D dA base U a c H) : a < H.size := by
  unfold zat at h
  split at h
  · obtain ⟨-, scr, h1, -⟩ := h
    exact (Array.getElem?_eq_some_iff.mp h1).1
  · exact h.2.lt
/-- a cell of the world is written -/
theorem zRel.put {D : va_G} {dA : Nat → ClassId} {base a : Nat} {U : State} {w : zW} {H H1 : Heap} {c : zC} (h : zRel D dA base w U H) (hn : zscr c = none) (hb : base ≤ a) (ha : va_at D vwCl (a, zre dA c) H1) (hz : H1.size = H.size) (oq : ∀ q : Nat, q ≠ a → H1[q]? = H[q]?) : zRel D dA base (zset w a c) U H1 := by
  refine ⟨hz.trans h.1, h.2.1, fun b d hd => ?_⟩
  by_cases e : b = a
  · subst e
    have hd' : (if b = b then some c else w.2 b) = some d := hd
    rw [if_pos rfl] at hd'
    cases hd'
    unfold zat
    rw [hn]
    exact ⟨hb, ha⟩
  · have hd' : (if b = a then some c else w.2 b) = some d := hd
    rw [if_neg e] at hd'
    exact (h.2.2 b d hd').kept (oq b e)
/-- a cell is made -/
theorem zRel.push {D : va_G} {dA : Nat → ClassId} {base n : Nat} {U : State} {w : zW} {H H1 : Heap} {c : zC} (h : zRel D dA base w U H) (hn : zscr c = none) (ha : va_at D vwCl (H.size, zre dA c) H1) (hz : H1.size = H.size + 1) (oq : ∀ q : Nat, q < H.size → H1[q]? = H[q]?) : zRel D dA base (znew w n c) U H1 := by
  have h0 := h.1
  refine ⟨by rw [hz, h0]; rfl, Nat.le_succ_of_le h.2.1, fun b d hd => ?_⟩
  by_cases e : b = w.1.1
  · have hd' : (if b = w.1.1 then some c else w.2 b) = some d := hd
    rw [if_pos e] at hd'
    cases hd'
    unfold zat
    rw [hn]
    rw [e]
    exact ⟨h.2.1, by rw [← h0]; exact ha⟩
  · have hd' : (if b = w.1.1 then some c else w.2 b) = some d := hd
    rw [if_neg e] at hd'
    have h3 := h.2.2 b d hd'
    exact h3.kept (oq b h3.lt)
theorem zP1 {D : va_G} {q : Nat × va_E} {H : Heap} (h : va_at D vwCl q H) : va_P D vwCl [q] H := by
  intro k x hx
  match k, hx with
  | 0, hx => cases hx; exact h
  | k + 1, hx => simp at hx
theorem zKS.moved {D : va_G} {dA : Nat → ClassId} {u U : State} (hW : u.WarmedH U.vm) (h : zKS D dA u) : zKS D dA U :=
  ⟨va_K.moved hW.alike h.1, fun o i y hw => va_Nw.warmM hW (h.2.1 o i y hw), va_AO.moved hW.alike h.2.2.1, va_AO.moved hW.alike h.2.2.2⟩
theorem zKS.same {D : va_G} {dA : Nat → ClassId} {u U : State} (hv : u.vm = U.vm) (h : zKS D dA u) : zKS D dA U :=
  ⟨va_K.moved (by rw [hv]; exact Vm.Alike.refl _) h.1, fun o i y hw => va_Nw.same rfl hv (h.2.1 o i y hw), va_AO.moved (by rw [hv]; exact Vm.Alike.refl _) h.2.2.1, va_AO.moved (by rw [hv]; exact Vm.Alike.refl _) h.2.2.2⟩
/-! ===== rows that write and make, over the whole pure world ===== -/
section ZROW
variable {p : Program} {l : Launch} {e : Env} {R : Room} {s : State} {m : MethodId} {args : Array Value} {below : List Frame} {meth : Method} {c : Code} {H : Heap} {locs : List Loc} {cells slots : Nat} {Q : State → Prop}
variable {cc : ByteArray} {pc : Nat} {ls : Array Slot} {rest : List Value} {D : va_G} {dA : Nat → ClassId} {base a : Nat} {H0 : Heap} {w : zW}
theorem zat_arr {u : Nat} {x : vp_A} (hu : u < 6) (h : zat D dA base s a (.inl (u, x)) H) : base ≤ a ∧ H[a]? = some (vp_cell (dA u) x) := by
  unfold zat at h
  have e : zscr (.inl (u, x)) = none := by
    unfold zscr
    split
    · rename_i h1
      cases h1
      rw [if_neg (by omega)]
    · rfl
  rw [e] at h
  exact h
theorem zat_obj {o : Nat × List Value} (h : zat D dA base s a (.inr o) H) : base ≤ a ∧ va_at D vwCl (a, .inr o) H := h
theorem zin_in {i : Int32} {n : Nat} (h : zin i n = true) : vp_in i n := by
  unfold zin at h
  simp only [Bool.and_eq_true, decide_eq_true_eq] at h
  exact vp_in_iff.mpr h
theorem zscr_obj (o : Nat × List Value) : zscr (.inr o) = none := rfl
theorem zscr_arr {u : Nat} {x : vp_A} (hu : u < 6) : zscr (.inl (u, x)) = none := by
  unfold zscr
  split
  · rename_i h1
    cases h1
    rw [if_neg (by omega)]
  · rfl
theorem zr_put (hexec : p.tables.exec = Jvm.exec) (hb : c.code = cc) {own : String} {ci k index : Nat} (hci : ci < 13) (hk : k < zN ci) (hts : ∀ w ∈ lw_good, w.before args s = true) (hown : s.vm.findClass own = some m.cls) (hK : va_K D vwCl (zty dA) s) (hR : zRel D dA base w s H) {fs : List Value} (he : w.2 a = some (.inr (ci, fs))) (hl : k < fs.length) (hlink : (Cond.fieldLink own index (zT ci k).1 (zT ci k).2.1 (zT ci k).2.2.1).before args s = true) (hfin : (zT ci k).2.2.2 = false ∨ (meth.name = "<init>" ∧ (zT ci k).1 = own)) {v : Value} (hn : narrow (zTy ci k) v = v) (hfit : fits (zTy ci k) v = true) (hS : va_S (fun q => base ≤ q) H0 H locs) (hdg : decode cc pc = .ok (.putfield index, 3))
    (kk : ∀ (H1 : Heap) (locs1 : List Loc), zRel D dA base (zset w a (.inr (ci, fs.set k v))) s H1 → va_S (fun q => base ≤ q) H0 H1 locs1 → W p l e R s m args below meth c H1 locs1 cells slots Q (F0 m (pc + 3) ls rest)) : W p l e R s m args below meth c H locs cells slots Q (F0 m pc ls (v :: .ref a :: rest)) := by
  have hc := zvw ci hci
  have hin := zws_okG ci hci
  have hd := zty_ok ci hci k hk
  have hap := va_apart (own := own) hts hin (zTy ci) (zty_ok ci hci) (znm_ok ci hci) hK hc
  obtain ⟨hba, r, h1, cell, q1, q2, q3, q4⟩ := zat_obj (hR.2.2 a _ he)
  have hr : r = (zR ci, zT ci, zN ci) := Option.some.inj (h1.symm.trans hc)
  subst hr
  obtain ⟨hSl, hfc, kC, hkC, hkind⟩ := hK.1 ci _ hc
  obtain ⟨cf, kf, fi, f, hi, hsl⟩ := hSl k hk
  have hst := (u_facts hfc hkC (u_lays hts hin hk) hi).1
  have hlay := hts _ (hin _ (u_in_lay hk))
  unfold u_lay at hlay
  rcases hfin with hfin | ⟨hin2, hdecl⟩
  · rw [if_neg (by rw [hfin]; decide)] at hlay
    have h6 := u_store hfc hkC hkind hlay hi hd hn hfit
    refine W.putK hexec hb (f := f) ⟨hown, hlink, ⟨_, _, _, hi⟩, hst⟩ (by rw [q2]; exact h6) q1 q3 (by rw [hsl]; exact k2_hasslot (q4 k hk)) rfl rfl hdg fun H' e1 e2 e3 => ?_
    rw [hsl] at e1 ⊢
    exact kk H' _ (hR.put rfl hba ⟨_, hc, t_OB.to (V := updV (vp_V fs) k v) ⟨_, e1, q2, q3, t_set q4 hap hk v⟩ (fun j _ => vp_updV_set hl v j)⟩ e2 e3) (hS.put e2 e3 hba)
  · by_cases hfin : (zT ci k).2.2.2 = true
    · rw [if_pos hfin] at hlay
      have hcf : m.cls = cf := by
        obtain ⟨_, _, c', _, _, _, -, -, hf', -, -, -, hown2, -⟩ := Cond.laysFinal_spec hlay
        have e1 : c' = cf := by have := hi.symm.trans hf'; simp at this; exact this.1.symm
        rw [hdecl] at hown2
        rw [← e1]; exact Option.some.inj (hown.symm.trans hown2)
      have h6 := u_fits hfc hkC hkind (Or.inr hlay) hi hd hn hfit
      refine W.putFinK hexec hb hown hlink hi hst hcf hin2 (by rw [q2]; exact h6) q1 q3 (by rw [hsl]; exact k2_hasslot (q4 k hk)) rfl rfl hdg fun H' e1 e2 e3 => ?_
      rw [hsl] at e1 ⊢
      exact kk H' _ (hR.put rfl hba ⟨_, hc, t_OB.to (V := updV (vp_V fs) k v) ⟨_, e1, q2, q3, t_set q4 hap hk v⟩ (fun j _ => vp_updV_set hl v j)⟩ e2 e3) (hS.put e2 e3 hba)
    · rw [if_neg hfin] at hlay
      have h6 := u_store hfc hkC hkind hlay hi hd hn hfit
      refine W.putK hexec hb (f := f) ⟨hown, hlink, ⟨_, _, _, hi⟩, hst⟩ (by rw [q2]; exact h6) q1 q3 (by rw [hsl]; exact k2_hasslot (q4 k hk)) rfl rfl hdg fun H' e1 e2 e3 => ?_
      rw [hsl] at e1 ⊢
      exact kk H' _ (hR.put rfl hba ⟨_, hc, t_OB.to (V := updV (vp_V fs) k v) ⟨_, e1, q2, q3, t_set q4 hap hk v⟩ (fun j _ => vp_updV_set hl v j)⟩ e2 e3) (hS.put e2 e3 hba)
theorem zr_iast (hexec : p.tables.exec = Jvm.exec) (hb : c.code = cc) (hK : va_K D vwCl (zty dA) s) (hR : zRel D dA base w s H) (hS : va_S (fun q => base ≤ q) H0 H locs) {n : Nat} {f : Nat → Int32} (ha : w.2 a = some (.inl (0, n, .inl f))) {i x : Int32} (hin : vp_in i n) (hdg : decode cc pc = .ok (.iastore, 1))
    (kk : ∀ (H1 : Heap) (locs1 : List Loc), zRel D dA base (zset w a (.inl (0, n, .inl (upd f i.toNatClampNeg x)))) s H1 → va_S (fun q => base ≤ q) H0 H1 locs1 → W p l e R s m args below meth c H1 locs1 cells slots Q (F0 m (pc + 1) ls rest)) : W p l e R s m args below meth c H locs cells slots Q (F0 m pc ls (.int x :: .int i :: .ref a :: rest)) := by
  obtain ⟨hba, hcell⟩ := zat_arr (by decide) (hR.2.2 a _ ha)
  refine W.iast hexec hb hcell ((hK.2 0 _ rfl).1 n (fun j => .int (f j))) (fun q => by cases q) (by show ¬ (i < 0 ∨ (arrV _ _ _).slots.size ≤ _); rw [arrV_size]; exact hin) rfl rfl hdg fun H1 e z oq => ?_
  refine kk H1 _ (hR.put (zscr_arr (by decide)) hba ?_ z oq) (hS.put z oq hba)
  show H1[a]? = some (vp_cell _ _)
  rw [e]
  rw [vp_cell_i, vp_cell_i, arrV_store]
  congr 2
  funext q
  by_cases hq : q = i.toNatClampNeg
  · subst hq
    simp [updV, upd]
  · simp [updV, upd, hq]
theorem zr_bast (hexec : p.tables.exec = Jvm.exec) (hb : c.code = cc) (hK : va_K D vwCl (zty dA) s) (hR : zRel D dA base w s H) (hS : va_S (fun q => base ≤ q) H0 H locs) {n : Nat} {f : Nat → Int32} (ha : w.2 a = some (.inl (3, n, .inl f))) {i : Int32} {x : Int32} (hin : vp_in i n) (hdg : decode cc pc = .ok (.bastore, 1))
    (kk : ∀ (H1 : Heap) (locs1 : List Loc), zRel D dA base (zset w a (.inl (3, n, .inl (upd f i.toNatClampNeg x.toInt8.toInt32)))) s H1 → va_S (fun q => base ≤ q) H0 H1 locs1 → W p l e R s m args below meth c H1 locs1 cells slots Q (F0 m (pc + 1) ls rest)) : W p l e R s m args below meth c H locs cells slots Q (F0 m pc ls (.int x :: .int i :: .ref a :: rest)) := by
  obtain ⟨hba, hcell⟩ := zat_arr (by decide) (hR.2.2 a _ ha)
  refine W.bast hexec hb hcell ((hK.2 3 _ rfl).1 n (fun j => .int (f j))) (fun q => by cases q) (by show ¬ (i < 0 ∨ (arrV _ _ _).slots.size ≤ _); rw [arrV_size]; exact hin) rfl rfl hdg fun H1 e z oq => ?_
  refine kk H1 _ (hR.put (zscr_arr (by decide)) hba ?_ z oq) (hS.put z oq hba)
  show H1[a]? = some (vp_cell _ _)
  rw [e]
  rw [vp_cell_i, vp_cell_i, arrV_store]
  congr 2
  funext q
  by_cases hq : q = i.toNatClampNeg
  · subst hq
    simp [updV, upd, vp_updL, vf_upd]
    try rfl
  · simp [updV, upd, vp_updL, vf_upd, hq]
theorem zr_last (hexec : p.tables.exec = Jvm.exec) (hb : c.code = cc) (hK : va_K D vwCl (zty dA) s) (hR : zRel D dA base w s H) (hS : va_S (fun q => base ≤ q) H0 H locs) {n : Nat} {f : Nat → Int64} (ha : w.2 a = some (.inl (1, n, .inr (.inl f)))) {i : Int32} {x : Int64} (hin : vp_in i n) (hdg : decode cc pc = .ok (.lastore, 1))
    (kk : ∀ (H1 : Heap) (locs1 : List Loc), zRel D dA base (zset w a (.inl (1, n, .inr (.inl (vp_updL f i.toNatClampNeg x))))) s H1 → va_S (fun q => base ≤ q) H0 H1 locs1 → W p l e R s m args below meth c H1 locs1 cells slots Q (F0 m (pc + 1) ls rest)) : W p l e R s m args below meth c H locs cells slots Q (F0 m pc ls (.long x :: .int i :: .ref a :: rest)) := by
  obtain ⟨hba, hcell⟩ := zat_arr (by decide) (hR.2.2 a _ ha)
  refine W.last hexec hb hcell ((hK.2 1 _ rfl).1 n (fun j => .long (f j))) (fun q => by cases q) (by show ¬ (i < 0 ∨ (arrV _ _ _).slots.size ≤ _); rw [arrV_size]; exact hin) rfl rfl hdg fun H1 e z oq => ?_
  refine kk H1 _ (hR.put (zscr_arr (by decide)) hba ?_ z oq) (hS.put z oq hba)
  show H1[a]? = some (vp_cell _ _)
  rw [e]
  rw [vp_cell_l, vp_cell_l, arrV_store]
  congr 2
  funext q
  by_cases hq : q = i.toNatClampNeg
  · subst hq
    simp [updV, upd, vp_updL, vf_upd]
    try rfl
  · simp [updV, upd, vp_updL, vf_upd, hq]
theorem zr_fast (hexec : p.tables.exec = Jvm.exec) (hb : c.code = cc) (hK : va_K D vwCl (zty dA) s) (hR : zRel D dA base w s H) (hS : va_S (fun q => base ≤ q) H0 H locs) {n : Nat} {f : Nat → UInt32} (ha : w.2 a = some (.inl (2, n, .inr (.inr (.inl f))))) {i : Int32} {x : UInt32} (hin : vp_in i n) (hdg : decode cc pc = .ok (.fastore, 1))
    (kk : ∀ (H1 : Heap) (locs1 : List Loc), zRel D dA base (zset w a (.inl (2, n, .inr (.inr (.inl (vf_upd f i.toNatClampNeg x)))))) s H1 → va_S (fun q => base ≤ q) H0 H1 locs1 → W p l e R s m args below meth c H1 locs1 cells slots Q (F0 m (pc + 1) ls rest)) : W p l e R s m args below meth c H locs cells slots Q (F0 m pc ls (.float x :: .int i :: .ref a :: rest)) := by
  obtain ⟨hba, hcell⟩ := zat_arr (by decide) (hR.2.2 a _ ha)
  refine W.fast hexec hb hcell ((hK.2 2 _ rfl).1 n (fun j => .float (f j))) (fun q => by cases q) (by show ¬ (i < 0 ∨ (arrV _ _ _).slots.size ≤ _); rw [arrV_size]; exact hin) rfl rfl hdg fun H1 e z oq => ?_
  refine kk H1 _ (hR.put (zscr_arr (by decide)) hba ?_ z oq) (hS.put z oq hba)
  show H1[a]? = some (vp_cell _ _)
  rw [e]
  rw [vp_cell_f, vp_cell_f, arrV_store]
  congr 2
  funext q
  by_cases hq : q = i.toNatClampNeg
  · subst hq
    simp [updV, upd, vp_updL, vf_upd]
    try rfl
  · simp [updV, upd, vp_updL, vf_upd, hq]
theorem zr_astq (hexec : p.tables.exec = Jvm.exec) (hb : c.code = cc) (hK : va_K D vwCl (zty dA) s) (hR : zRel D dA base w s H) (hS : va_S (fun q => base ≤ q) H0 H locs) {u ci n x : Nat} {vs : List Value} {f : Nat → Option Nat} (ha : w.2 a = some (.inl (u, n, .inr (.inr (.inr (.inr f)))))) (hv : w.2 x = some (.inr (ci, vs))) (hu : (u = 4 ∧ ci = 3) ∨ (u = 5 ∧ ci = 8)) {i : Int32} (hin : vp_in i n) (hdg : decode cc pc = .ok (.aastore, 1))
    (kk : ∀ (H1 : Heap) (locs1 : List Loc), zRel D dA base (zset w a (.inl (u, n, .inr (.inr (.inr (.inr (va_up f i.toNatClampNeg (some x)))))))) s H1 → va_S (fun q => base ≤ q) H0 H1 locs1 → W p l e R s m args below meth c H1 locs1 cells slots Q (F0 m (pc + 1) ls rest)) : W p l e R s m args below meth c H locs cells slots Q (F0 m pc ls (.ref x :: .int i :: .ref a :: rest)) := by
  have hu6 : u < 6 := by omega
  have ht : (zty dA)[u]? = some (dA u, .object (zR ci)) := by
    rcases hu with ⟨rfl, rfl⟩ | ⟨rfl, rfl⟩ <;> rfl
  have hc : vwCl[ci]? = some (zR ci, zT ci, zN ci) := zvw ci (by omega)
  obtain ⟨hba, hcell⟩ := zat_arr hu6 (hR.2.2 a _ ha)
  have hlt : i.toNatClampNeg < n := Nat.not_le.mp fun q => hin (Or.inr q)
  have h0 : ¬ i < 0 := fun q => hin (Or.inl q)
  obtain ⟨-, r', hr', cellV, g1, g2, g3, -⟩ := zat_obj (hR.2.2 x _ hv)
  have hcls := (hK.1 ci _ hc).2
  obtain ⟨kA, comp, k1, k2, k3, -⟩ := (hK.2 u _ ht).2
  have hcomp : comp = D.1 ci := Option.some.inj (k3.symm.trans hcls.1)
  subst hcomp
  obtain ⟨kC, hkC, -⟩ := hcls.2
  refine W.aast hexec hb hcell (fun q h => by cases h) (fun h => by cases h) k1 k2 rfl hkC ⟨h0, by show _ < (arrV _ _ _).slots.size; rw [arrV_size]; exact hlt⟩ g1 (fun q h => by rw [g3] at h; cases h) (by rw [g2]; exact hkC) (by rw [g2]; exact va_assign hcls) rfl rfl hdg fun H1 e z oq => ?_
  refine kk H1 _ (hR.put (zscr_arr hu6) hba ?_ z oq) (hS.put z oq hba)
  show H1[a]? = some (vp_cell _ _)
  rw [e]
  rw [vp_cell_q, vp_cell_q, arrV_store]
  congr 2
  funext q
  by_cases hq : q = i.toNatClampNeg
  · subst hq
    simp [updV, va_up, va_rf]
  · simp [updV, va_up, hq]
theorem zr_new (hexec : p.tables.exec = Jvm.exec) (hb : c.code = cc) {own : String} {ci index : Nat} (hci : ci < 13) (hts : ∀ w ∈ lw_good, w.before args s = true) (hown : s.vm.findClass own = some m.cls) (hcl : (Cond.classLink own index (zR ci)).before args s = true) (hinst : (Cond.instantiable (zR ci) (zN ci)).before args s = true) (hini : (Cond.initialized (zR ci)).before args s = true)
    (hK : va_K D vwCl (zty dA) s) (hR : zRel D dA base w s H) (hS : va_S (fun q => base ≤ q) H0 H locs) {fs : List Value} (hf : zNew[ci]? = some fs) (hcells : cells + 1 ≤ R.cells) (hslots : slots + fs.length ≤ R.slots) (hdg : decode cc pc = .ok (.new index, 3))
    (kk : ∀ H1 : Heap, zRel D dA base (znew w fs.length (.inr (ci, fs))) s H1 → va_S (fun q => base ≤ q) H0 H1 locs →
      W p l e R s m args below meth c H1 locs (cells + 1) (slots + fs.length) Q (F0 m (pc + 3) ls (.ref w.1.1 :: rest))) : W p l e R s m args below meth c H locs cells slots Q (F0 m pc ls rest) := by
  have hc := zvw ci hci
  have hin := zws_okG ci hci
  obtain ⟨hfl, hfs⟩ := znew_ok ci hci fs hf
  have hKn := hK.1 ci _ hc
  rw [hfl] at hslots kk
  refine W.newcK hexec hb hown hcl hinst hini rfl hdg hcells hslots hKn.2.1 rfl fun H1 kC hkC e1 z1 o1 => ?_
  have hsz := hR.1
  rw [← hsz] at kk
  refine kk H1 (hR.push rfl ?_ z1 o1) ⟨Nat.le_trans hS.1 (by omega), fun x h1 h2 => (o1 x (Nat.lt_of_lt_of_le h1 hS.1)).trans (hS.2.1 x h1 h2), hS.2.2⟩
  exact ⟨_, hc, (u_born (zTy ci) hts hin hKn hkC e1 (zty_ok ci hci)).to hfs⟩
theorem zr_newa (hexec : p.tables.exec = Jvm.exec) (hb : c.code = cc) {atype : ArrayType} {u : Nat} {ty : FieldType} (harr : (Cond.arrayClass (newarray.typeOf atype)).before args s = true) (hty : newarray.typeOf atype = ty) (ht : (zty dA)[u]? = some (dA u, ty)) (hu : u < 4) (hK : va_K D vwCl (zty dA) s) (hR : zRel D dA base w s H) (hS : va_S (fun q => base ≤ q) H0 H locs)
    {n : Int32} {x : vp_A} (hx : ∀ cA : ClassId, vp_cell cA x = arrV cA n.toNatClampNeg (fun _ => defaultValue ty)) (hn : ¬ n < 0) (hbytes : n.toNatClampNeg * componentBytes ty ≤ 536870912) (hcells : cells + 1 ≤ R.cells) (hslots : slots + n.toNatClampNeg ≤ R.slots) (hdg : decode cc pc = .ok (.newarray atype, 2))
    (kk : ∀ H1 : Heap, zRel D dA base (znew w n.toNatClampNeg (.inl (u, x))) s H1 → va_S (fun q => base ≤ q) H0 H1 locs →
      W p l e R s m args below meth c H1 locs (cells + 1) (slots + n.toNatClampNeg) Q (F0 m (pc + 2) ls (.ref w.1.1 :: rest))) : W p l e R s m args below meth c H locs cells slots Q (F0 m pc ls (.int n :: rest)) := by
  subst hty
  refine va_newaK hexec hb harr rfl hdg rfl hn rfl hbytes hcells hslots rfl fun H1 cA e1 z1 o1 hAr hNm => ?_
  have hsz := hR.1
  rw [← hsz] at kk
  have hRA := (hK.2 u _ ht).2
  have hcA : cA = dA u := by
    have h2 : s.vm.findClass ("[" ++ (newarray.typeOf atype).toString) = some (dA u) := by
      revert hRA
      cases atype <;> exact fun h => h
    exact Option.some.inj (hNm.symm.trans h2)
  subst hcA
  refine kk H1 (hR.push (zscr_arr (by omega)) ?_ z1 o1) ⟨Nat.le_trans hS.1 (by omega), fun x h1 h2 => (o1 x (Nat.lt_of_lt_of_le h1 hS.1)).trans (hS.2.1 x h1 h2), hS.2.2⟩
  show H1[H.size]? = some (vp_cell _ _)
  rw [hx]
  exact e1
theorem zr_newq (hexec : p.tables.exec = Jvm.exec) (hb : c.code = cc) {own C : String} {index u : Nat} (hown : s.vm.findClass own = some m.cls) (hclink : (Cond.classLink own index C).before args s = true) (hover : va_AO C s) (ht : (zty dA)[u]? = some (dA u, .object C)) (hu : u < 6) (hK : va_K D vwCl (zty dA) s) (hR : zRel D dA base w s H) (hS : va_S (fun q => base ≤ q) H0 H locs)
    {n : Int32} (hn : ¬ n < 0) (hbytes : n.toNatClampNeg * 4 ≤ 536870912) (hcells : cells + 1 ≤ R.cells) (hslots : slots + n.toNatClampNeg ≤ R.slots) (hdg : decode cc pc = .ok (.anewarray index, 3))
    (kk : ∀ H1 : Heap, zRel D dA base (znew w n.toNatClampNeg (.inl (u, n.toNatClampNeg, .inr (.inr (.inr (.inr (fun _ => none))))))) s H1 → va_S (fun q => base ≤ q) H0 H1 locs →
      W p l e R s m args below meth c H1 locs (cells + 1) (slots + n.toNatClampNeg) Q (F0 m (pc + 3) ls (.ref w.1.1 :: rest))) : W p l e R s m args below meth c H locs cells slots Q (F0 m pc ls (.int n :: rest)) := by
  refine W.anew hexec hb hown hclink (va_AO.use hover) rfl hdg rfl hn hbytes hcells hslots fun cA kA comp f1 f2 f3 f4 => ?_
  generalize hH1 : H.push ({ cls := cA, slots := Array.replicate n.toNatClampNeg .null, vm := .none } : Cell) = H1
  have z1 : H1.size = H.size + 1 := by rw [← hH1, Array.size_push]
  have e1 : H1[H.size]? = some (arrV cA n.toNatClampNeg (fun _ => .null)) := by rw [← hH1, Array.getElem?_push_size, ← arrV_new]
  have o1 : ∀ q : Nat, q < H.size → H1[q]? = H[q]? := fun q hq => by rw [← hH1, Array.getElem?_push, if_neg (Nat.ne_of_lt hq)]
  obtain ⟨kA', comp', g1, g2, g3, g4⟩ := (hK.2 u _ ht).2
  have hcA : cA = dA u := Option.some.inj (f1.symm.trans g4)
  subst hcA
  have hsz := hR.1
  rw [← hsz] at kk
  refine kk H1 (hR.push (zscr_arr hu) ?_ z1 o1) ⟨Nat.le_trans hS.1 (by omega), fun x h1 h2 => (o1 x (Nat.lt_of_lt_of_le h1 hS.1)).trans (hS.2.1 x h1 h2), hS.2.2⟩
  show H1[H.size]? = some (vp_cell _ _)
  rw [e1]
  rfl
end ZROW
