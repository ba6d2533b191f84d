/-! ===== the claim ===== -/
/-! THE CLAIM OUT OF ONE WALK OF THE LAW'S BODY. Your part is whole_start (and what it stands on); all else here is the same for every law, but numbers. -/
def R_law : String := "PerfumeOrganLaw"
def lw_P (b : Addr) (xs : List Int32) (args : Array Value) (s : State) : Prop := args = #[.ref b] ∧ s.IntsAt b xs ∧ xs.length ≤ 3072 ∧ (Jvm.Cond.and given_1 narrow_1).before args s = true
/-- what a walk over the start with the record d0 says of its end, said of the start itself -/
theorem lw_closed {s t : State} {o : Outcome} {d0 : Drawn} {L : List Loc} {k n : Nat} (hd0 : s.drawn.sameBut d0 lw_cs) (hv : ∃ v, o = .returned v) (hW : (s.setDrawn d0).WarmedH t.vm) (hs : (s.setDrawn d0).sameButNew ({ t with vm := s.vm } : State) L k n) : State.butDraws s t lw_cs (fun t1 => Framed s o t1 L k n) := by
  have h2 : t.drawn = d0 := congrArg State.drawn hs.1
  refine ⟨⟨hv, hW, State.sameButNew.setDrawn hs s.drawn⟩, ?_, by decide⟩
  rw [h2]
  exact hd0
def lw_Q (_ : Array Value) (s : State) (o : Outcome) (t : State) : Prop := o = .returned (some (.int 1)) ∧ State.butDraws s t lw_cs (fun t1 => Framed s o t1 [] 600000 7302250)
def lw_Z (below : List Frame) (a : Array Value) (s : State) : State → Prop := fun t => ∃ o, t.status = .running ∧ Ended t below o ∧ lw_Q a s o t
/-- the law's own end, with 1 on the stack, nothing written that was there before, its room as the claim has it; d0: the record of draws at this point (at the entry s.drawn: begin with 'refine W.base ?_' and 'have hd0 := Drawn.sameBut.refl s.drawn lw_cs') -/
theorem lw_ret {p : Program} {l : Launch} {e : Env} {s : State} {m : MethodId} {below : List Frame} {meth : Method} {c : Code} {b : Nat} {d0 : Drawn} (hd0 : s.drawn.sameBut d0 lw_cs) (hx : p.tables.exec = Jvm.exec) (hb : c.code = code) (hr : meth.sig.returnType = ret) (hlocks : meth.locks = false) {pc : Nat} {H : Heap} {ls : Array Slot} (hdg : decode code pc = .ok (.ireturn, 1)) : W p l e room_1 (s.setDrawn d0) m #[Value.ref b] below meth c H [] 600000 7302250 (lw_Z below #[Value.ref b] s) (F0 m pc ls [.int 1]) := by
  intro T hT X
  obtain ⟨fs, hret, hrun, hended, hW, hframe⟩ := X.leave (v := some (.int 1)) (hlocks := hlocks) (fun h => by rw [hr] at h; cases h)
  have hmeth' : T.vm.method? m = some meth := X.method'
  refine ⟨T.setFrames fs, ?_, .returned (some (.int 1)), hrun, hended, rfl, lw_closed hd0 ⟨_, rfl⟩ hW hframe⟩
  jvm_step X.here [X.here.top, hx, hb, hdg, hmeth', hr, ret, narrow_b1]
  (try refine ⟨rfl, ?_⟩); (try refine ⟨rfl, ?_⟩)
  first | (intro acts; rw [hret _ acts rfl rfl rfl]) | rw [hret _ _ rfl rfl rfl]
  exact Steps.refl _
/-- what holds at the law's entry: the machine, the code, the tables' words (any of lw_tbl by 'hts w (by decide +kernel)'), the script of L ints xs at the cell b, what the Statement gives of the start (any of its parts by flat_of_before) -/
def lw_At (p : Program) (s : State) (m : MethodId) (meth : Method) (c : Code) (b L : Nat) (xs : Nat → Int32) : Prop :=
  p.tables.exec = Jvm.exec ∧ c.code = code ∧ meth.sig.returnType = ret ∧ c.maxLocals = 4 ∧ s.vm.findClass R_law = some m.cls ∧ (∀ w ∈ lw_tbl, w.before #[Value.ref b] s = true) ∧ va_X b L xs s s.heap ∧ b < s.heap.size ∧ meth.locks = false ∧ (Jvm.Cond.and given_1 narrow_1).before #[Value.ref b] s = true
theorem zcls_all : ∀ ci, ci < 13 → ∃ q ∈ zCls, q.2.2 = ci := by decide
/-- a run of the law on the pure machine is one of the machine, to its end with 1 -/
theorem zexec_L {p : Program} {l : Launch} {e : Env} {s : State} {m : MethodId} {below : List Frame} {meth : Method} {c : Code} {D : va_G} {dA : Nat → ClassId} {d sb : Nat} {M : zM} {w0 w' : zW} (C : zCtx p l s m #[Value.ref sb] meth c room_1 D dA s.heap.size d 13 2 code M) (hr : meth.sig.returnType = ret) (hlocks : meth.locks = false) (hMo : zMono M) (hcells : w'.1.1 - w0.1.1 ≤ 600000 ∧ w'.1.2 - w0.1.2 ≤ 7302250) :
    ∀ (n pc : Nat) (L : zLoc) (st : List Value) (w : zW), zexec M 13 2 code n (pc, L, st, w) = some (some (.int 1), w') → c.maxLocals = L.length → zle w0 w →
      ∀ (H : Heap) (locs : List Loc) (ls : Array Slot), zRel D dA s.heap.size w s H → va_S (fun q => s.heap.size ≤ q) s.heap H locs → zlv ls L →
        W p l e room_1 s m #[Value.ref sb] below meth c H locs (w.1.1 - w0.1.1) (w.1.2 - w0.1.2) (lw_Z below #[Value.ref sb] s) (F0 m pc ls st) := by
  intro n
  induction n with
  | zero => intro pc L st w h; simp [zexec] at h
  | succ n ih =>
    intro pc L st w h hml hle H locs ls hR hS hlv
    simp only [zexec] at h
    split at h
    · rename_i b s' hs
      obtain ⟨i, len, hd, hl, hz⟩ := zstep_inv hs
      have hle1 := zins_le hMo _ _ hz
      have hle2 := zexec_le hMo _ _ _ h
      obtain ⟨pc', L', st', w1⟩ := s'
      dsimp only at hle1 hle2
      have hlen := zins_len _ _ hz
      dsimp only at hlen
      refine zins_W C hml hR hS hlv hd hl hz hle ⟨?_, ?_⟩ (fun H1 locs1 ls1 hR1 hS1 hlv1 => ih pc' L' st' w1 h (hml.trans hlen.symm) (zle_tr hle hle1) H1 locs1 ls1 hR1 hS1 hlv1)
      · have h1 := hle2.1
        show w1.1.1 - w0.1.1 ≤ 600000
        omega
      · have h1 := hle2.2
        show w1.1.2 - w0.1.2 ≤ 7302250
        omega
    · rename_i r' hs
      obtain ⟨i, len, hd, hl, hz⟩ := zstep_inv hs
      cases h
      obtain ⟨rfl, hend⟩ := zins_ret hz
      obtain ⟨hx, hb, -, -, -, -, -, -, -⟩ := C
      rcases hend with ⟨rfl, x, rfl, hx1, -⟩ | ⟨-, x, -, hx1, -⟩ | ⟨-, x, -, hx1, -⟩ | ⟨-, -, hx1, -⟩
      · cases hx1
        obtain rfl : len = 1 := beq_iff_eq.mp hl
        exact va_forget (fun q hq => hS.2.2 q hq) (W.widen hcells.1 hcells.2 (W.base (lw_ret (Drawn.sameBut.refl s.drawn lw_cs) hx hb hr hlocks hd)))
      · cases hx1
      · cases hx1
      · cases hx1
    · cases h
-- ===== YOUR PART BEGINS =====
/-- YOUR PART: from the entry, for every script of at most 3072 ints, the law comes to its end with true ('hflags': the launch's flags, for a law that throws: no stack traces) -/
theorem whole_start {p : Program} {e : Env} {s : State} {m : MethodId} {below : List Frame} {meth : Method} {c : Code} (l : Launch) (hflags : l.flags = flags0) {b L : Nat} {xs : Nat → Int32} (hL : L ≤ 3072) (C0 : lw_At p s m meth c b L xs) : W p l e room_1 s m #[Value.ref b] below meth c s.heap [] 0 0 (lw_Z below #[Value.ref b] s) (entryFrame m ([Value.ref b] : List Value).toArray 4) := by
  obtain ⟨hx, hb, hr, hml, hown, hts, hX, hbl, hlocks, hgv⟩ := id C0
  have htsg : ∀ w ∈ lw_good, w.before #[Value.ref b] s = true := fun w hw => hts w (List.mem_filter.mp hw).1
  have hK1 : ∀ ci : Nat, ∃ (cC : ClassId) (iS : Nat → Nat), ci < 13 → u_Kn s (zR ci) (zT ci) (zN ci) cC iS := by
    intro ci
    by_cases h : ci < 13
    · obtain ⟨q, hq, rfl⟩ := zcls_all ci h
      have h2 := List.all_eq_true.mp zcls_ok2 _ hq
      simp only [Bool.and_eq_true, decide_eq_true_eq] at h2
      obtain ⟨cC, iS, hk⟩ := u_known (C := zR q.2.2) (T := zT q.2.2) (N := zN q.2.2) (n := zN q.2.2) hts (zws_ok _ h) (hts _ h2.2)
      exact ⟨cC, iS, fun _ => hk⟩
    · exact ⟨0, fun _ => 0, fun q => absurd q h⟩
  obtain ⟨dC, hK2⟩ := Classical.axiomOfChoice hK1
  obtain ⟨dI, hK3⟩ := Classical.axiomOfChoice hK2
  have hKc : ∀ (k : Nat) (q : vw_C), vwCl[k]? = some q → u_Kn s q.1 q.2.1 q.2.2 (dC k) (dI k) := by
    intro k q hq
    by_cases h : k < 13
    · have e := zvw k h
      rw [hq] at e
      injection e with e
      rw [e]
      exact hK3 k h
    · rw [List.getElem?_eq_none (by show 13 ≤ k; omega)] at hq
      cases hq
  obtain ⟨a0, k0, p0, x0, y0, z0⟩ := Cond.arrayClass_spec (hts (.arrayClass .int) (by decide +kernel))
  obtain ⟨a1, k1, p1, x1, y1, z1⟩ := Cond.arrayClass_spec (hts (.arrayClass .long) (by decide +kernel))
  obtain ⟨a2, k2, p2, x2, y2, z2⟩ := Cond.arrayClass_spec (hts (.arrayClass .float) (by decide +kernel))
  obtain ⟨a3, k3, p3, x3, y3, z3⟩ := Cond.arrayClass_spec (hts (.arrayClass .byte) (by decide +kernel))
  have hO3 : (Cond.arrayOver (.object RX3)).before #[Value.ref b] s = true := hts _ (by decide +kernel)
  have hO8 : (Cond.arrayOver (.object RX8)).before #[Value.ref b] s = true := hts _ (by decide +kernel)
  obtain ⟨q4, a4, k4, f41, f42, f43, f44, f45⟩ := Cond.arrayOver_spec hO3
  obtain ⟨q5, a5, k5, f51, f52, f53, f54, f55⟩ := Cond.arrayOver_spec hO8
  have hKt : ∀ (k : Nat) (q : ClassId × FieldType), (zty (fun u => [a0, a1, a2, a3, a4, a5].getD u 0))[k]? = some q → ArrOfT s q.1 q.2 ∧ va_RA s q.1 q.2 := by
    intro k q hq
    match k, hq with
    | 0, hq => cases hq; exact ⟨fun N z => ⟨(fun k h => by cases h), k0, y0, p0, z0⟩, x0⟩
    | 1, hq => cases hq; exact ⟨fun N z => ⟨(fun k h => by cases h), k1, y1, p1, z1⟩, x1⟩
    | 2, hq => cases hq; exact ⟨fun N z => ⟨(fun k h => by cases h), k2, y2, p2, z2⟩, x2⟩
    | 3, hq => cases hq; exact ⟨fun N z => ⟨(fun k h => by cases h), k3, y3, p3, z3⟩, x3⟩
    | 4, hq => cases hq; exact ⟨fun N z => ⟨(fun k h => by cases h), k4, f43, q4, f44⟩, k4, q4, f43, f44, f41, f45⟩
    | 5, hq => cases hq; exact ⟨fun N z => ⟨(fun k h => by cases h), k5, f53, q5, f54⟩, k5, q5, f53, f54, f51, f55⟩
    | k + 6, hq => cases hq
  have hKS : zKS (dC, dI) (fun u => [a0, a1, a2, a3, a4, a5].getD u 0) s := ⟨⟨hKc, hKt⟩, fun o i y hw => va_Nw.of rfl (hts _ hw), va_AO.of hO3, va_AO.of hO8⟩
  have C : zCtx p l s m #[Value.ref b] meth c room_1 (dC, dI) (fun u => [a0, a1, a2, a3, a4, a5].getD u 0) s.heap.size 20 13 2 code (zlw 20 s.heap.size) := ⟨hx, hb, hown, htsg, hKS, fun h => absurd h (by decide), Nat.le_of_ble_eq_true rfl, Nat.le_of_ble_eq_true rfl, zlw_mets l (dC, dI) _ s.heap.size 20⟩
  obtain ⟨G, hGe⟩ : ∃ G : Int → Int, G = fun j => (xs j.toNat).toInt := ⟨_, rfl⟩
  have hG : ∀ j, zr (G j) := fun j => by
    rw [hGe]
    exact zr_toI _
  have hGx : zAI G = xs := by
    funext j
    show zI (G (j : Int)) = xs j
    rw [hGe]
    show zI (xs ((j : Int).toNat)).toInt = xs j
    rw [zI_tI, Int.toNat_natCast]
  obtain ⟨g, hg⟩ := law_run (b := s.heap.size) (sb := b) (L := L) hL hbl hG
  obtain ⟨n, hn⟩ := zruns_iff.mp hg
  rw [show zI 1 = (1 : Int32) from rfl] at hn
  have hR : zRel (dC, dI) (fun u => [a0, a1, a2, a3, a4, a5].getD u 0) s.heap.size ((s.heap.size, 0), zlaw s.heap.size b (.inl (9, L, .inl (zAI G))) (fun _ => none)) s s.heap := by
    refine ⟨rfl, Nat.le_refl _, fun a cc h => ?_⟩
    have h : (if s.heap.size ≤ a then none else if a = b then some (.inl (9, L, .inl (zAI G))) else none) = some cc := h
    split at h
    · cases h
    · split at h
      · rename_i e
        cases h
        subst e
        show a < s.heap.size ∧ va_X a L (zAI G) s s.heap
        exact ⟨hbl, by rw [hGx]; exact hX⟩
      · cases h
  rw [lg_entry_eq]
  have hl := lv_entry ([.ref b]) (n := 4) (Nat.le_of_ble_eq_true rfl)
  have hlv : zlv (lg_sl ([.ref b]) ++ List.replicate (4 - (lg_sl ([.ref b])).length) Slot.unset).toArray [some (.ref b), none, none, none] := by
    obtain ⟨e1, e2, e3⟩ := zpad_spec (n := 4) (X := zargs [.ref b]) (L := [some (.ref b), none, none, none]) rfl
    refine ⟨hl.1, hl.2.1, fun i v hi => ?_⟩
    have h1 := zargs_at [.ref b] 0 i v (e3 i v hi)
    rw [Nat.zero_add] at h1
    exact hl.2.2 _ h1
  have key := zexec_L (e := e) (below := below) C hr hlocks (zlw_mono 20 s.heap.size) (w0 := ((s.heap.size, 0), zlaw s.heap.size b (.inl (9, L, .inl (zAI G))) (fun _ => none))) ⟨by show s.heap.size + 180 - s.heap.size ≤ 600000; omega, by show 9039 - 0 ≤ 7302250; omega⟩ n 0 _ [] _ hn hml zle_rfl s.heap [] _ hR va_S.rf hlv
  rw [Nat.sub_self, Nat.sub_self] at key
  exact key
-- ===== YOUR PART ENDS =====
set_option maxHeartbeats 4000000 in
theorem lw_walk (l : Launch) (hflags : l.flags = flags0) (b : Addr) (xs : List Int32) : MetFree l x (headSpec (Jvm.Cond.code x code maxLocals ret :: tables_1) room_1) (lw_P b xs) (fun _ _ _ _ _ => True) lw_Q := by
  refine MetFree.of_bodyS (code := code) (maxLocals := maxLocals) (ret := ret) (by decide) ?_ ?_
  · intro args s m h hn
    obtain ⟨meth, c, h1, h2, h3, h4, h5, h6, -, -⟩ := Cond.code_spec hn (atoms_spec (ws := Jvm.Cond.code x code maxLocals ret :: tables_1) h _ List.mem_cons_self)
    exact ⟨meth, c, h1, h2, h3, h4, h5, h6⟩
  · intro p e s m args below meth c s₁ B hml0 hP _
    obtain ⟨rfl, hx, hbd, hgv⟩ := hP
    obtain ⟨scr, harrAt, hlist, hof, hsmall⟩ := hx
    obtain ⟨hcb, hkn, -, -⟩ := State.arrayAt?_spec harrAt
    have hown : s.vm.findClass R_law = some m.cls := findClass_of_methodNamed B.named
    have hts0 : ∀ c ∈ (Jvm.Cond.code x code maxLocals ret :: tables_1), c.before #[Value.ref b] s = true := atoms_spec (ws := Jvm.Cond.code x code maxLocals ret :: tables_1) B.pre
    have hts : ∀ w ∈ lw_tbl, w.before #[Value.ref b] s = true := k2_hts_sels lw_privs (fun w hw => hts0 w (List.mem_cons_of_mem _ hw)) lw_privs_ok
    have hml : c.maxLocals = 4 := B.maxLocals_eq (hts0 _ List.mem_cons_self)
    have X₀ : Stand p l e room_1 s m #[Value.ref b] below meth c s₁ [] 0 0 := Stand.of_body B
    have hh0 : s₁.heap = s.heap := by rw [B.state]; rfl
    have hsz : scr.slots.size = xs.length := by rw [← Array.length_toList, hlist, List.length_map]
    have hval : ∀ j : Nat, j < xs.length → scr.slots[j]? = some (.int (xs.getD j 0)) := fun j hj => by
      rw [← Array.getElem?_toList, hlist]
      simp [hj]
    have hbl : b < s.heap.size := (Array.getElem?_eq_some_iff.mp hcb).1
    have hX : va_X b xs.length (fun j => xs.getD j 0) s s.heap := ⟨scr, hcb, hof, hkn, hsz, hval⟩
    have K : W p l e room_1 s m #[Value.ref b] below meth c s₁.heap [] 0 0 (lw_Z below #[Value.ref b] s) (entryFrame m ([Value.ref b] : List Value).toArray 4) := by
      rw [hh0]
      exact whole_start l hflags hbd ⟨B.exec, B.bytes, B.returns, hml, hown, hts, hX, hbl, B.notSynchronized, hgv⟩
    obtain ⟨t, a1, o, b1, b2, b3⟩ := K s₁ rfl X₀
    exact ⟨t, o, a1, b1, b2, b3⟩
theorem lw_pre_spec {args : Array Value} {s : State} (h : (Jvm.Cond.and given_1 narrow_1).before args s = true) (hr : rest_1_c.before args s = true) : ∃ (b : Addr) (xs : List Int32), lw_P b xs args s := by
  have hs := flat_of_before _ h
  have hq := flat_of_before _ hr
  have hc : (Cond.count 1).before args s = true := hs _ (by decide +kernel)
  have harr : (Cond.arrayOf (.arg 0) .int).before args s = true := hs _ (by decide +kernel)
  have hle : (Cond.le (.length (.arg 0)) (.int 3072)).before args s = true := hs _ (by decide +kernel)
  have hlen : (Cond.isInt (.length (.arg 0))).before args s = true := hq _ (by decide +kernel)
  have hall : (Cond.all (.arg 0) (.isInt (.elem (.arg 0) (.index 0)))).before args s = true := hq _ (by decide +kernel)
  obtain ⟨b, xs, hb, hx⟩ := State.ints_of_pre rfl harr hlen hall
  have hsm : xs.length < 2 ^ 31 := hx.choose_spec.2.2.2
  have hev : (Term.length (.arg 0)).eval args s none [] s = some (.int xs.length.toInt32) := hx.length_eval hb
  have hv := Cond.le_ints hev (show (Term.int 3072).eval args s none [] s = some (.int 3072) from rfl)
  have hd : xs.length.toInt32 ≤ 3072 := by
    simpa [Cond.before, Cond.holds, hv] using hle
  have hN : xs.length ≤ 3072 := (Int32.ofNat_le_ofNat hsm (by decide)).mp (show Int32.ofNat xs.length ≤ Int32.ofNat 3072 from hd)
  exact ⟨b, xs, Cond.one_arg hc (show args[0]? = some (.ref b) from hb), hx, hN, h⟩
theorem lw_comes (l : Launch) (hflags : l.flags = flags0) : Comes l x (Jvm.Cond.code x code maxLocals ret :: tables_1) room_1 (fun tb e args s => Calls_1 tb e args s ∧ rest_1 tb e args s ∧ Pre_1 tb e args s)
    (fun _ _ args s o t => lw_Q args s o t) := by
  intro p e ha hc hk s m args below hf hfit hheap happ hpre
  obtain ⟨b, xs, hP⟩ := lw_pre_spec hpre.2.2 hpre.2.1
  obtain ⟨k, o, h1, h2, h3, hQ⟩ := lw_walk l hflags b xs p e ha hc hk s m args below hf ((Spec.applies_iff_loose hf).mp happ).1 hP trivial
  exact ⟨k, o, h1, h2, h3, hQ⟩
theorem lw_frame {s t : State} {o : Outcome} {args : Array Value} (h : State.butDraws s t lw_cs (fun t1 => Framed s o t1 [] 600000 7302250)) :
    State.butDraws s t [Jvm.Choice.named "NaN.bits", Jvm.Choice.named "NaN.copy"] (fun t1 => Framed s o t1 (fieldLocs frame_1_writes args s ++ arrayLocs frame_1_arrays args s ++ staticLocs frame_1_statics s) 600000 7302250) := h
theorem lw_limb (L : Cond) (hL : ∀ (args : Array Value) (s t : State), L.after args s (.returned (some (.int 1))) t = true) :
    ArmFor flags0 classFile x code maxLocals ret World_1 tables_1 room_1 Calls_1 rest_1 Pre_1
      (fun tb e a s o t => postC L tb e a s o t ∧ State.butDraws s t [Jvm.Choice.named "NaN.bits", Jvm.Choice.named "NaN.copy"] (fun t1 => Framed s o t1 (fieldLocs frame_1_writes a s ++ arrayLocs frame_1_arrays a s ++ staticLocs frame_1_statics s) 600000 7302250)) := by
  intro l hflags _ _ p e ha hc hk s m args below hf hfit hheap happ hpre
  obtain ⟨k, o, h1, h2, h3, rfl, hF⟩ := lw_comes l hflags p e ha hc hk s m args below hf hfit hheap happ hpre
  exact ⟨k, _, h1, h2, h3, hL args s _, lw_frame hF⟩
theorem i_vc : Claimed_1_1 ∧ Claimed_1_2 := ⟨lw_limb limb_1_1 (fun args s t => by simp [limb_1_1, Cond.after, Cond.holds, Cond.value]), lw_limb limb_1_2 (fun args s t => Cond.after_iff.mpr (by
  first | (rw [show limb_1_2 = Cond.eq .result (.int 1) from rfl, Cond.eq_ints (x := 1) (y := 1) rfl rfl]; simp; done) | (simp [limb_1_2, Cond.value, Term.eval]; done)))⟩
