/-! ===== ONE INSTRUCTION of the pure machine is one of the machine's ===== -/
theorem zI_byte {n : Int} (h : -128 ≤ n ∧ n < 128) : (Int8.ofInt n).toInt32 = zI n := by
  apply Int32.toInt_inj.mp
  unfold zI
  rw [Int8.toInt_toInt32, Int8.toInt_ofInt, Int32.toInt_ofInt]
  simp only [Int.bmod, Int8.size, Int16.size, Int32.size]
  omega
theorem zI_short {n : Int} (h : -32768 ≤ n ∧ n < 32768) : (Int16.ofInt n).toInt32 = zI n := by
  apply Int32.toInt_inj.mp
  unfold zI
  rw [Int16.toInt_toInt32, Int16.toInt_ofInt, Int32.toInt_ofInt]
  simp only [Int.bmod, Int8.size, Int16.size, Int32.size]
  omega
def zle (w w' : zW) : Prop := w.1.1 ≤ w'.1.1 ∧ w.1.2 ≤ w'.1.2
def zws (t : zMT) : List Cond := Cond.code t.1.1 t.1.2.1 t.1.2.2.1 t.1.2.2.2 :: lw_good
def zrm (d : Nat) (w w' : zW) : Room := { frames := d, cells := w'.1.1 - w.1.1, slots := w'.1.2 - w.1.2, locals := 40 * d }
def zPc (D : va_G) (dA : Nat → ClassId) (base : Nat) (As : List Value) (w : zW) : Array Value → State → Prop := va_Pc As (fun U => zRel D dA base w U U.heap ∧ zKS D dA U)
def zQc (D : va_G) (dA : Nat → ClassId) (base : Nat) (r : Option Value) (w' : zW) : Array Value → State → Outcome → State → Prop := fun _ st oc t => oc = .returned r ∧ zRel D dA base w' t t.heap ∧ va_F (fun q => base ≤ q) st t
/-- the calls of a method of depth d have their contracts -/
def zMets (l : Launch) (D : va_G) (dA : Nat → ClassId) (base d : Nat) (M : zM) : Prop := ∀ (k : Nat) (t : zMT), zMeths[k]? = some t → ∀ (As : List Value) (w : zW) (r : Option Value) (w' : zW), M k As w = some (r, w') →
  zle w w' ∧ Met l t.1.1 (zws t) (zrm d w w') (zPc D dA base As w) (zQc D dA base r w') (w'.1.1 - w.1.1) (w'.1.2 - w.1.2) (fun q => base ≤ q)
theorem zcat4 {rest : List Value} (h : rest.length ≤ 4) : (rest.map fun v => v.category).sum ≤ 8 := by
  have h2 : ∀ l : List Value, (l.map fun v => v.category).sum ≤ 2 * l.length := by
    intro l
    induction l with
    | nil => simp
    | cons v t ih =>
      have hv : v.category ≤ 2 := by cases v <;> simp [Value.category]
      simp only [List.map_cons, List.sum_cons, List.length_cons]
      omega
  have := h2 rest
  omega
theorem zws_good {t : zMT} (h : t ∈ zMeths) : GoodIn lw_good (zws t) := by
  intro w hw
  rcases List.mem_cons.mp hw with rfl | hw
  · exact ⟨zg (zm_code h) rfl, Or.inl rfl⟩
  · exact ⟨hw, good_of_word (List.mem_filter.mp hw).2⟩
section ZSTEP
variable {p : Program} {l : Launch} {e : Env} {R : Room} {s : State} {m : MethodId} {args : Array Value} {below : List Frame} {meth : Method} {c : Code} {H : Heap} {locs : List Loc} {cells slots : Nat} {Q : State → Prop}
variable {cc : ByteArray} {pc : Nat} {ls : Array Slot} {rest : List Value} {D : va_G} {dA : Nat → ClassId} {base a : Nat} {H0 : Heap} {w : zW}
theorem z_call {st0 : List Value} {r : Option Value} {w' : zW} {mc ms : Nat} {ar : Array Value} (hr : va_Run p l e R s m args below meth c H locs cells slots mc ms (F0 m pc ls st0) rest (zQc D dA base r w' ar) (fun q => base ≤ q)) (hS : va_S (fun q => base ≤ q) H0 H locs)
    (kk : ∀ (H1 : Heap) (locs1 : List Loc), zRel D dA base w' s H1 → va_S (fun q => base ≤ q) H0 H1 locs1 → W p l e R s m args below meth c H1 locs1 (cells + mc) (slots + ms) Q (F0 m (pc + 3) ls (r.toList ++ rest))) : W p l e R s m args below meth c H locs cells slots Q (F0 m pc ls st0) := by
  intro T hT X
  obtain ⟨v, st₀, t, T', L, h0, X', hL, e1, e2, ⟨hv, hR, hz, hk⟩, st⟩ := hr T hT X
  cases hv
  rw [h0] at hz hk
  have hal : s.vm.Alike t.vm := by rw [← e2]; exact X'.warmed.alike
  obtain ⟨t2, a1, b1⟩ := kk T'.heap (locs ++ L) (by rw [e1]; exact hR.moved hal.symm)
    ⟨Nat.le_trans hS.1 (by rw [e1]; exact hz), fun q h1 h2 => by rw [e1, hk q (Nat.lt_of_lt_of_le h1 hS.1) h2]; exact hS.2.1 q h1 h2, fun q hq => by
      rcases List.mem_append.mp hq with h | h
      · exact hS.2.2 q h
      · exact hL q h⟩ T' rfl X'
  exact ⟨t2, st t2 a1, b1⟩
theorem zPc_blind {As : List Value} {w : zW} : FrameBlind (zPc D dA base As w) := fun a U g mk q => ⟨q.1, q.2.1.moved (Vm.Alike.refl U.vm), q.2.2.same rfl⟩
theorem zPc_at {As : List Value} {w : zW} (hKS : zKS D dA s) (hR : zRel D dA base w s H) : ∀ U : State, U.heap = H → s.WarmedH U.vm → zPc D dA base As w As.toArray U := fun U hU hW => ⟨rfl, by rw [hU]; exact hR.moved hW.alike, hKS.moved hW⟩
theorem z_callB {own : Nat} {index d : Nat} {t : zMT} {w w' : zW} {ne k : Nat} (ht : t ∈ zMeths) (hk : zMeths[k]? = some t) (hts : ∀ w ∈ lw_good, w.before args s = true) (hlk : (own, index, k, ne) ∈ zLks) (hne : ne = 0) (hF : d + 1 ≤ R.frames) (hL : 40 * d + 40 ≤ R.locals) : CallB R s args (zR own) index t.1.1 t.1.2.1 t.1.2.2.1 t.1.2.2.2 (zws t) (zrm d w w') (w'.1.1 - w.1.1) (w'.1.2 - w.1.2) t.2.2.1 := by
  obtain ⟨f1, f2, f3, f4, f5, f6⟩ := zm_facts ht
  have hc : Cond.code t.1.1 t.1.2.1 t.1.2.2.1 t.1.2.2.2 ∈ zws t := List.mem_cons_self
  have hl : Cond.methodLink (zR own) index t.1.1 ∈ lw_tbl := by
    have h1 := ztbl_mem zlks_ok (zlkW (own, index, k, ne)) (List.mem_map.mpr ⟨_, hlk, rfl⟩)
    unfold zlkW at h1
    dsimp only at h1
    rw [hk] at h1
    dsimp only at h1
    rwa [if_pos hne] at h1
  refine ⟨rfl, rfl, hF, ?_, pay_in hts (zws_good ht), hc, hts _ (zg (zm_code ht) rfl), hts _ (zg f1 rfl), f2, fun sig h => ?_, hts _ (zg hl rfl)⟩
  · show 8 + (t.1.2.2.1 + 11) + 40 * d ≤ R.locals
    omega
  · rw [h] at f4
    exact (Option.some.inj f4).symm
theorem z_callN {own : Nat} {index d : Nat} {t : zMT} {w w' : zW} {ne k : Nat} (ht : t ∈ zMeths) (hk : zMeths[k]? = some t) (hts : ∀ w ∈ lw_good, w.before args s = true) (hKS : zKS D dA s) (hlk : (own, index, k, ne) ∈ zLks) (hne : ¬ ne = 0) (hF : d + 1 ≤ R.frames) (hL : 40 * d + 40 ≤ R.locals) : va_CN R s args (zR own) index t.1.1 "PerfumeOrgan" t.1.2.1 t.1.2.2.1 t.1.2.2.2 (zws t) (zrm d w w') (w'.1.1 - w.1.1) (w'.1.2 - w.1.2) t.2.2.1 := by
  obtain ⟨f1, f2, f3, f4, f5, f6⟩ := zm_facts ht
  have hc : Cond.code t.1.1 t.1.2.1 t.1.2.2.1 t.1.2.2.2 ∈ zws t := List.mem_cons_self
  have hl : Cond.methodLinkNest (zR own) index t.1.1 "PerfumeOrgan" ∈ lw_tbl := by
    have h1 := ztbl_mem zlks_ok (zlkW (own, index, k, ne)) (List.mem_map.mpr ⟨_, hlk, rfl⟩)
    unfold zlkW at h1
    dsimp only at h1
    rw [hk] at h1
    dsimp only at h1
    rwa [if_neg hne] at h1
  refine ⟨⟨rfl, rfl, hF, ?_, pay_in hts (zws_good ht), hc⟩, hts _ (zg (zm_code ht) rfl), hts _ (zg f1 rfl), f2, fun sig h => ?_, va_Nw.use rfl (hKS.2.1 _ _ _ hl)⟩
  · show 8 + (t.1.2.2.1 + 11) + 40 * d ≤ R.locals
    omega
  · rw [h] at f4
    exact (Option.some.inj f4).symm
/-- what stands round an instruction -/
def zCtx (p : Program) (l : Launch) (s : State) (m : MethodId) (args : Array Value) (meth : Method) (c : Code) (R : Room) (D : va_G) (dA : Nat → ClassId) (base d own rt : Nat) (code : ByteArray) (M : zM) : Prop :=
  p.tables.exec = Jvm.exec ∧ c.code = code ∧ s.vm.findClass (zR own) = some m.cls ∧ (∀ w ∈ lw_good, w.before args s = true) ∧ zKS D dA s ∧ (rt = 5 → meth.name = "<init>") ∧ d + 1 ≤ R.frames ∧ 40 * d + 40 ≤ R.locals ∧ zMets l D dA base d M
theorem z_callV {code : ByteArray} {own rt idx d : Nat} {M : zM} {L : zLoc} {st : List Value} {b : Bool} {s' : zS} {n0 m0 : Nat} (C : zCtx p l s m args meth c R D dA base d own rt code M) (hml : c.maxLocals = L.length) (hR : zRel D dA base w s H) (hS : va_S (fun q => base ≤ q) H0 H locs) (hlv : zlv ls L)
    (hdg : decode code pc = .ok (.invokevirtual idx, 3)) (h : zcallV M own idx pc L st w = some (.inl (b, s'))) (hn : n0 ≤ w.1.1 ∧ m0 ≤ w.1.2) (hc : s'.2.2.2.1.1 - n0 ≤ R.cells ∧ s'.2.2.2.1.2 - m0 ≤ R.slots)
    (kk : ∀ (H1 : Heap) (locs1 : List Loc) (ls1 : Array Slot), zRel D dA base s'.2.2.2 s H1 → va_S (fun q => base ≤ q) H0 H1 locs1 → zlv ls1 s'.2.1 → W p l e R s m args below meth c H1 locs1 (s'.2.2.2.1.1 - n0) (s'.2.2.2.1.2 - m0) Q (F0 m s'.1 ls1 s'.2.2.1)) :
    W p l e R s m args below meth c H locs (w.1.1 - n0) (w.1.2 - m0) Q (F0 m pc ls st) := by
  obtain ⟨hx, hb, hown, hts, hKS, hctor, hF, hL, hM⟩ := C
  unfold zcallV at h
  split at h
  · rename_i k ne hlk
    split at h
    · rename_i y0 ow np kind rt1 hk
      split at h
      · rename_i As b0 rest hpop
        split at h
        · rename_i hkind
          obtain ⟨fs, hcell, hbk⟩ := zcls_inv h
          obtain ⟨v, w1, hMk, rfl⟩ := zback_inv hbk
          obtain ⟨A, rfl, hst, hlen⟩ := zpop_inv hpop
          rw [List.append_nil] at *
          have ht : ((y0, (ow, np, kind, rt1)) : zMT) ∈ zMeths := List.mem_of_getElem? hk
          obtain ⟨hle, hMet⟩ := hM k _ hk _ _ _ _ hMk
          obtain ⟨f1, f2, f3, f4, f5, f6⟩ := zm_facts ht
          obtain ⟨g1, g2, g3, g4, g5⟩ := zm_facts3 ht
          have how : ow < 13 := g5 (by dsimp only; omega)
          obtain ⟨hba, hat⟩ := zat_obj (hR.2.2 b0 _ hcell)
          have hrecv := va_recv hKS.1 (zP1 hat) (q0 := 0) (zvw ow how) rfl
          have hpre : PreV s H y0.1.cls b0 (zPc D dA base (.ref b0 :: A) w) A := ⟨zPc_blind, by rw [show y0.1.cls = zR ow from f3]; exact hrecv, zPc_at hKS hR⟩
          have hin : (Cond.instanceMethod y0.1).before args s = true := hts _ (zg (zm_inst ht (by dsimp only; omega)) rfl)
          have hse : (Cond.selects y0.1.cls y0.1 y0.1).before args s = true := hts _ (zg (zm_sel ht hkind.1) rfl)
          have hml' : c.maxLocals = ls.size := hml.trans hlv.1.symm
          dsimp only at hc kk
          have fin : ∀ (hr : va_Run p l e R s m args below meth c H locs (w.1.1 - n0) (w.1.2 - m0) (w1.1.1 - w.1.1) (w1.1.2 - w.1.2) (F0 m pc ls st) rest (zQc D dA base v w1 (Value.ref b0 :: A).toArray) (fun q => base ≤ q)), W p l e R s m args below meth c H locs (w.1.1 - n0) (w.1.2 - m0) Q (F0 m pc ls st) := by
            intro hr
            refine z_call hr hS fun H1 locs1 hR1 hS1 => ?_
            have e1 : w.1.1 - n0 + (w1.1.1 - w.1.1) = w1.1.1 - n0 := by have := hle.1; omega
            have e2 : w.1.2 - m0 + (w1.1.2 - w.1.2) = w1.1.2 - m0 := by have := hle.2; omega
            rw [e1, e2]
            exact kk H1 locs1 ls hR1 hS1 hlv
          have hfit : w.1.1 - n0 + (w1.1.1 - w.1.1) ≤ R.cells ∧ w.1.2 - m0 + (w1.1.2 - w.1.2) ≤ R.slots := by
            have := hle.1; have := hle.2; omega
          by_cases hne : ne = 0
          · exact fin (va_runV ⟨hx, hb, hml', hown, hts⟩ hMet ⟨z_callB ht hk hts (zlk_mem hlk) hne hF hL, hin, hse⟩ hpre rfl hlen rfl hst (lv_room (zcat4 hkind.2)) hdg hfit)
          · exact fin (va_runVN ⟨hx, hb, hml', hown, hts⟩ hMet ⟨z_callN ht hk hts hKS (zlk_mem hlk) hne hF hL, hin, hse⟩ hpre rfl hlen rfl hst (lv_room (zcat4 hkind.2)) hdg hfit)
        · cases h
      · cases h
    · cases h
  · cases h
set_option maxRecDepth 100000 in
/-- the machine's own entry of Math.abs of a float: what it answers where the argument is no NaN -/
theorem zabs_row (p : Program) (x : UInt32) (hx : x &&& 0x7fffffff ≤ 0x7f800000) : ∃ row : NativeRow, NativeRow.find? p.tables.natives "java/lang/Math" "abs" "(F)F" = some row ∧
    ∀ (e : Env) (S : State), ∃ acts, (row.sem #[.float x]).run e S = .ok (some (.float (x &&& 0x7fffffff))) S acts := by
  have hn : (x &&& 0x7fffffff) &&& 0x7fffffff ≤ 0x7f800000 := by rw [UInt32.and_assoc, UInt32.and_self]; exact hx
  have key : ∀ row : NativeRow, row.sem #[.float x] = (do
      let r ← anyNaN32 (x &&& 0x7fffffff)
      mark "nat.java_lang_Math.abs/float"
      Pure.pure (some (.float r))) → ∀ (e : Env) (S : State), ∃ acts, (row.sem #[.float x]).run e S = .ok (some (.float (x &&& 0x7fffffff))) S acts := by
    intro row hrow e S
    have h1 : wpRun (row.sem #[.float x]) (fun v s₂ _ => v = some (.float (x &&& 0x7fffffff)) ∧ s₂ = S) (fun _ _ _ => False) e S := by
      rw [hrow]
      simp [jvm, wpRun, anyNaN32, hn]
    have h2 := (wpRun_iff_run _ _ _ _ _).mp h1
    revert h2
    cases (row.sem #[.float x]).run e S with
    | ok v s₂ acts => rintro ⟨rfl, rfl⟩; exact ⟨_, rfl⟩
    | ctl y s₂ acts => cases y <;> exact fun q => q.elim
  cases p <;> exact ⟨_, rfl, key _ rfl⟩
abbrev zabsN : MethodName := ⟨"java/lang/Math", "abs", "(F)F"⟩
/-- a call of it: one frame, which the entry answers at once -/
theorem zabs_back {x : UInt32} (hx : x &&& 0x7fffffff ≤ 0x7f800000) {sargs : Array Value} {bytes : ByteArray} (hcode : (Cond.code zabsN bytes 1 (some .float)).before sargs s = true) (hF : 1 ≤ R.frames) (hL : 40 ≤ R.locals) :
    Back l R p e below s sargs zabsN 3 8 (fun A av => A.cells ≤ R.cells ∧ A.slots ≤ R.slots ∧ av = #[.float x]) (fun A _ v B => v = some (.float (x &&& 0x7fffffff)) ∧ B = A) := by
  intro m meth c A g ig mk av X hg hsize hdg hW hnamed hpre
  obtain ⟨hc, hs, rfl⟩ := hpre
  obtain ⟨mM, cM, hmM, hcM, -, hlM, -, hkM, -, hsM⟩ := Cond.code_spec hnamed (Cond.tabsOnly_warm (args' := sargs) (T := A.U) X.warmed _ rfl hcode)
  obtain ⟨kP, hkP, hkn⟩ := className_of_methodNamed hnamed
  obtain ⟨hn1, hn2⟩ := name_of_methodNamed hnamed hmM
  have hxP : kP.methods[mk.idx]? = some mM := by simpa [Vm.method?, hkP] using hmM
  have hboot : kP.loader = none := Vm.bootOf_findClass (findClass_of_methodNamed hnamed) hkP
  have htopS : A.U.topJava?.isSome := X.here.top
  have hroom : (A.U.calling g mk #[.float x]).hasRoom e.platform {} = true :=
    X.room_calling hsize hmM hcM (R' := {}) (by show 0 + 1 ≤ R.frames; omega) (by rw [hlM]; show _ + (1 + 11) + 0 ≤ R.locals; omega) (by show A.cells + 0 ≤ R.cells; omega) (by show A.slots + 0 ≤ R.slots; omega)
  obtain ⟨row, hrow, hrun⟩ := zabs_row p x hx
  refine ⟨some (.float (x &&& 0x7fffffff)), A, X, ⟨rfl, rfl⟩, ?_⟩
  obtain ⟨U, Ls, c0, s0⟩ := A
  dsimp only [Pt.U, Pt.locs, Pt.cells, Pt.slots] at X htopS hroom hmM hkP ⊢
  obtain ⟨g₀, hg0⟩ := Option.isSome_iff_exists.mp htopS
  obtain ⟨r, hr⟩ := State.topJava?_eq_some.mp hg0
  obtain ⟨mid, hmid⟩ := X.here.above
  have hcur : U.cur < U.threads.size := State.cur_lt_of_frames hr
  have htop : U.setTop g = U.setFrames (.java g :: r) := State.setTop_of_frames _ hr
  have htail : U.frames.tail = r := by rw [hr]; rfl
  have hfull : e.platform.stackFull (U.setTop g).me (U.setTop g).frames cM.maxLocals = false := by
    have hfc := State.frames_calling htopS g mk #[.float x]
    obtain ⟨-, r2, -, r4⟩ := State.hasRoom_stack hroom
    rw [State.localsInUse_invoking hfc (meth := mM) (c := cM) hmM hcM, htail] at r4
    rw [hfc, htail] at r2
    have hw := stackUse_le_stackWeight (.java g :: r)
    rw [State.calling_eq htopS, State.stackLimits_setFrames] at r2 r4
    rw [htop, State.frames_setFrames _ hcur]
    have z1 : ({} : Room).frames = 0 := rfl
    have z2 : ({} : Room).locals = 0 := rfl
    refine Platform.stackFull_eq_false ?_ ?_
    · rw [State.stackLimits_setFrames]
      simp only [List.length_cons] at r2 ⊢
      omega
    · rw [State.stackLimits_setFrames]
      omega
  rw [(doInvoke_java (s := U.setTop g) (e := e) (acts := []) (args := #[.float x]) (meth := mM) (code := cM) hmM hcM hkM hfull).1, hlM]
  have hpush : (U.setTop g).pushFrame (.java { method := mk, pc := 0, locals := argsToLocals #[.float x] 1, stack := [], locked := none }) = U.setFrames (.java (entryFrame mk #[.float x] 1) :: .java g :: r) := by
    rw [State.pushFrame, State.frames_setTop _ hr, htop, State.setFrames_setFrames]
    rfl
  rw [hpush]
  have hfs : (U.setFrames (.java (entryFrame mk #[.float x] 1) :: .java g :: r)).frames = .java (entryFrame mk #[.float x] 1) :: .java g :: r := State.frames_setFrames _ hcur
  have hov : overridden p.tables e (U.setFrames (.java (entryFrame mk #[.float x] 1) :: .java g :: r)) (entryFrame mk #[.float x] 1) = some row := by
    have hk2 : (U.setFrames (.java (entryFrame mk #[.float x] 1) :: .java g :: r)).vm.classes[mk.cls]? = some kP := hkP
    have hrow2 : NativeRow.find? p.tables.natives kP.name mM.name mM.desc = some row := by rw [hkn, hn1, hn2]; exact hrow
    have hin : kP.name ∈ overriddenIn := by rw [hkn]; decide
    unfold overridden
    simp [entryFrame, hkP, hboot, hxP, hrow2]
    exact fun q => absurd hin q
  have hbind : ∀ F : List Frame, ((U.setFrames F).vm.classes[mk.cls]?.bind fun y => y.methods[mk.idx]?) = some mM := fun F => by
    show (U.vm.classes[mk.cls]?.bind fun y => y.methods[mk.idx]?) = some mM
    simp [hkP, hxP]
  have hps : mM.sig.parameters.length = 1 := by
    have h2 : parseMethodDescriptor "(F)F" = some { parameters := [.float], returnType := some .float } := by decide +kernel
    have h3 : parseMethodDescriptor "(F)F" = some mM.sig := hsM
    rw [h2] at h3
    rw [← Option.some.inj h3]
    rfl
  have htk : ∀ n : Nat, List.take (1 + n) [Value.float x] = [Value.float x] := fun n => List.take_of_length_le (Nat.le_add_right 1 n)
  obtain ⟨acts, hr2⟩ := hrun e (U.setFrames (.native { method := mk, args := #[.float x] } :: .java g :: r))
  have hcode2 : ∀ F : List Frame, (U.setFrames F).code? g.method = some c := fun F => by
    have h1 := X.here.code
    rw [← hg, State.code?_eq] at h1
    rw [State.code?_eq]
    simpa [State.setFrames] using h1
  have hgive : handOver (U.setFrames (.native { method := mk, args := #[.float x] } :: .java g :: r)) (some (.float (x &&& 0x7fffffff))) (.java g :: r) = some (.java { g with pc := g.pc + 3, stack := .float (x &&& 0x7fffffff) :: g.stack } :: r) := by
    simp [handOver, hcode2, hdg, Except.toOption]
  have hone : (stepThread p.tables e (U.setFrames (.java (entryFrame mk #[.float x] 1) :: .java g :: r))).1 = U.setTop { g with pc := g.pc + 3, stack := .float (x &&& 0x7fffffff) :: g.stack } := by
    unfold stepThread
    simp only [hfs, hov]
    simp [entryFrame, argsToLocals, Value.category, argCount, hbind, hkP, hxP, hps, htk, hr2, afterNative]
    rw [doReturn_native (f := { method := mk, args := #[.float x] }) (below := .java g :: r) (State.frames_setFrames _ hcur) rfl hgive, State.setFrames_setFrames, ← State.setTop_of_frames _ hr]
  refine Steps.head ⟨X.here.running, by simpa using X.here.runnable, by simpa using X.here.alone⟩ ⟨.java (entryFrame mk #[.float x] 1) :: .java g :: mid, ?_, by simp, by simp⟩ ?_
  · rw [hfs]
    rw [hr] at hmid
    simp at hmid
    simp [hmid]
  · rw [hone]
    exact Steps.refl _
set_option maxRecDepth 100000 in
theorem zabs_code : ∃ bytes : ByteArray, Cond.code zabsN bytes 1 (some .float) ∈ lw_tbl := ⟨_, List.mem_append_right _ (List.mem_of_getElem? (i := 1284) rfl)⟩
theorem zr_absf {own : String} {index : Nat} {x : UInt32} (hexec : p.tables.exec = Jvm.exec) (hb : c.code = cc) (hml : c.maxLocals = ls.size) (hown : s.vm.findClass own = some m.cls) (hts : ∀ w ∈ lw_good, w.before args s = true) (hstat : (Cond.static zabsN).before args s = true) (hini : (Cond.initialized "java/lang/Math").before args s = true) (hlink : (Cond.methodLink own index zabsN).before args s = true) (hx : x &&& 0x7fffffff ≤ 0x7f800000) (hrest : rest.length ≤ 4) (hF : 1 ≤ R.frames) (hL : 40 ≤ R.locals) (hcs : cells ≤ R.cells ∧ slots ≤ R.slots) (hdg : decode cc pc = .ok (.invokestatic index, 3))
    (kk : W p l e R s m args below meth c H locs cells slots Q (F0 m (pc + 3) ls (.float (x &&& 0x7fffffff) :: rest))) : W p l e R s m args below meth c H locs cells slots Q (F0 m pc ls (.float x :: rest)) := by
  intro T hT X
  obtain ⟨bytes, hcm⟩ := zabs_code
  have hcode := hts _ (zg hcm rfl)
  obtain ⟨v, vm₁, B, hW, X', ⟨rfl, rfl⟩, st⟩ := callS X hexec (bytes := bytes) (maxL := 1) (ret := some .float) hown hlink hstat hini hcode ⟨by decide, by decide⟩ (zabs_back hx hcode hF hL) (g := F0 m pc ls (.float x :: rest)) rfl hml.symm (argsL := [.float x]) (rest := rest) (fun sig h => by
      have h2 : parseMethodDescriptor "(F)F" = some { parameters := [.float], returnType := some .float } := by decide +kernel
      have h3 : parseMethodDescriptor "(F)F" = some sig := h
      rw [h2] at h3
      rw [← Option.some.inj h3]
      rfl) rfl (lv_room (zcat4 hrest)) (by rw [hb]; exact hdg) (fun vm₁ _ => ⟨hcs.1, hcs.2, rfl⟩)
  obtain ⟨t, a1, b1⟩ := kk (T.setVm vm₁) hT X'
  exact ⟨t, st t a1, b1⟩
theorem zlk_native {own k idx ne : Nat} (h : (own, idx, k, ne) ∈ zLks) (hk : zMeths[k]? = none) : zlkW (own, idx, k, ne) = (if k = 1000 then Cond.methodLink (zR own) idx arraycopyName
    else if k = 1001 then Cond.methodLink (zR own) idx ⟨"java/lang/Float", "floatToRawIntBits", "(F)I"⟩
    else if k = 1002 then Cond.methodLink (zR own) idx ⟨"java/lang/Float", "intBitsToFloat", "(I)F"⟩
    else if k = 1003 then Cond.methodLink (zR own) idx ⟨"java/lang/Double", "doubleToRawLongBits", "(D)J"⟩
    else if k = 1005 then Cond.methodLink (zR own) idx ⟨"java/lang/Math", "abs", "(F)F"⟩
    else Cond.methodLink (zR own) idx objectInit) ∧ zlkW (own, idx, k, ne) ∈ lw_tbl := by
  refine ⟨?_, ztbl_mem zlks_ok _ (List.mem_map.mpr ⟨_, h, rfl⟩)⟩
  unfold zlkW
  dsimp only
  rw [hk]
set_option maxRecDepth 100000 in
theorem znatw : ∀ w ∈ ([.native arraycopyName, .static arraycopyName, .initialized "java/lang/System", .native ⟨"java/lang/Float", "floatToRawIntBits", "(F)I"⟩, .static ⟨"java/lang/Float", "floatToRawIntBits", "(F)I"⟩, .initialized "java/lang/Float", .native ⟨"java/lang/Float", "intBitsToFloat", "(I)F"⟩, .static ⟨"java/lang/Float", "intBitsToFloat", "(I)F"⟩, .native ⟨"java/lang/Double", "doubleToRawLongBits", "(D)J"⟩, .static ⟨"java/lang/Double", "doubleToRawLongBits", "(D)J"⟩, .initialized "java/lang/Double", .instanceMethod objectInit, .code objectInit ⟨#[0xb1]⟩ 1 none, .static ⟨"java/lang/Math", "abs", "(F)F"⟩, .initialized "java/lang/Math"] : List Cond), w ∈ lw_tbl := by decide +kernel
theorem znatg {w : Cond} (i : Nat) (h : ([.native arraycopyName, .static arraycopyName, .initialized "java/lang/System", .native ⟨"java/lang/Float", "floatToRawIntBits", "(F)I"⟩, .static ⟨"java/lang/Float", "floatToRawIntBits", "(F)I"⟩, .initialized "java/lang/Float", .native ⟨"java/lang/Float", "intBitsToFloat", "(I)F"⟩, .static ⟨"java/lang/Float", "intBitsToFloat", "(I)F"⟩, .native ⟨"java/lang/Double", "doubleToRawLongBits", "(D)J"⟩, .static ⟨"java/lang/Double", "doubleToRawLongBits", "(D)J"⟩, .initialized "java/lang/Double", .instanceMethod objectInit, .code objectInit ⟨#[0xb1]⟩ 1 none, .static ⟨"java/lang/Math", "abs", "(F)F"⟩, .initialized "java/lang/Math"] : List Cond)[i]? = some w) (hg : goodWord w = true) : w ∈ lw_good := zg (znatw w (List.mem_of_getElem? h)) hg
theorem z_callS {code : ByteArray} {own rt idx d : Nat} {M : zM} {L : zLoc} {st : List Value} {b : Bool} {s' : zS} {n0 m0 : Nat} (C : zCtx p l s m args meth c R D dA base d own rt code M) (hml : c.maxLocals = L.length) (hR : zRel D dA base w s H) (hS : va_S (fun q => base ≤ q) H0 H locs) (hlv : zlv ls L)
    (hdg : decode code pc = .ok (.invokestatic idx, 3)) (h : zcallS M own idx pc L st w = some (.inl (b, s'))) (hn : n0 ≤ w.1.1 ∧ m0 ≤ w.1.2) (hc : s'.2.2.2.1.1 - n0 ≤ R.cells ∧ s'.2.2.2.1.2 - m0 ≤ R.slots)
    (kk : ∀ (H1 : Heap) (locs1 : List Loc) (ls1 : Array Slot), zRel D dA base s'.2.2.2 s H1 → va_S (fun q => base ≤ q) H0 H1 locs1 → zlv ls1 s'.2.1 → W p l e R s m args below meth c H1 locs1 (s'.2.2.2.1.1 - n0) (s'.2.2.2.1.2 - m0) Q (F0 m s'.1 ls1 s'.2.2.1)) :
    W p l e R s m args below meth c H locs (w.1.1 - n0) (w.1.2 - m0) Q (F0 m pc ls st) := by
  obtain ⟨hx, hb, hown, hts, hKS, hctor, hF, hL, hM⟩ := C
  have hml' : c.maxLocals = ls.size := hml.trans hlv.1.symm
  unfold zcallS at h
  split at h
  · rename_i k ne hlk
    split at h
    · rename_i y0 ow np kind rt1 hk
      split at h
      · rename_i As rest hpop
        split at h
        · rename_i hkind
          obtain ⟨v, w1, hMk, rfl⟩ := zback_inv h
          obtain ⟨A, rfl, hst, hlen⟩ := zpop_inv hpop
          rw [List.append_nil] at *
          have ht : ((y0, (ow, np, kind, rt1)) : zMT) ∈ zMeths := List.mem_of_getElem? hk
          obtain ⟨hle, hMet⟩ := hM k _ hk _ _ _ _ hMk
          have hpre : PreS s H (zPc D dA base A w) A := ⟨zPc_blind, zPc_at hKS hR⟩
          have hstt : (Cond.static y0.1).before args s = true := hts _ (zg (zm_static ht hkind.1) rfl)
          dsimp only at hc kk
          have fin : ∀ (hr : va_Run p l e R s m args below meth c H locs (w.1.1 - n0) (w.1.2 - m0) (w1.1.1 - w.1.1) (w1.1.2 - w.1.2) (F0 m pc ls st) rest (zQc D dA base v w1 A.toArray) (fun q => base ≤ q)), W p l e R s m args below meth c H locs (w.1.1 - n0) (w.1.2 - m0) Q (F0 m pc ls st) := by
            intro hr
            refine z_call hr hS fun H1 locs1 hR1 hS1 => ?_
            have e1 : w.1.1 - n0 + (w1.1.1 - w.1.1) = w1.1.1 - n0 := by have := hle.1; omega
            have e2 : w.1.2 - m0 + (w1.1.2 - w.1.2) = w1.1.2 - m0 := by have := hle.2; omega
            rw [e1, e2]
            exact kk H1 locs1 ls hR1 hS1 hlv
          have hfit : w.1.1 - n0 + (w1.1.1 - w.1.1) ≤ R.cells ∧ w.1.2 - m0 + (w1.1.2 - w.1.2) ≤ R.slots := by
            have := hle.1; have := hle.2; omega
          by_cases hne : ne = 0
          · exact fin (va_runS ⟨hx, hb, hml', hown, hts⟩ hMet ⟨z_callB ht hk hts (zlk_mem hlk) hne hF hL, hstt⟩ hpre rfl hlen rfl hst (lv_room (zcat4 hkind.2)) hdg hfit)
          · exact fin (va_runSN ⟨hx, hb, hml', hown, hts⟩ hMet ⟨z_callN ht hk hts hKS (zlk_mem hlk) hne hF hL, hstt, trivial⟩ hpre rfl hlen rfl hst (lv_room (zcat4 hkind.2)) hdg hfit)
        · cases h
      · cases h
    · rename_i hk
      obtain ⟨hw1, hw2⟩ := zlk_native (zlk_mem hlk) hk
      rw [hw1] at hw2
      unfold znat at h
      split at h
      · split at h
        · rename_i n dp a1 sp a0 rest hk1
          obtain ⟨rfl, hlen⟩ := hk1
          rw [if_pos rfl] at hw2
          have hlink := hts _ (zg hw2 rfl)
          have hnat := hts _ (znatg 0 rfl rfl)
          have hstat := hts _ (znatg 1 rfl rfl)
          have hini := hts _ (znatg 2 rfl rfl)
          have hnw : nativeFrameWords "java/lang/System" "arraycopy" 5 ≤ 8 := by decide
          have hcat := zcat4 hlen
          rcases zcpy_inv h with ⟨n0', n1', f, g, e0, e1, b1, b2, b3, b4, b5, hk2⟩ | ⟨n0', n1', f, g, e0, e1, b1, b2, b3, b4, b5, hk2⟩
          · obtain rfl := zgo_inv hk2
            exact zr_copyi hx hb hml' hown hlink hnat hstat hini hKS.1 hR hS e0 e1 b1 b2 b3 b4 b5 (by omega) (by omega) hdg (fun H1 locs1 hR1 hS1 => kk H1 locs1 ls hR1 hS1 hlv)
          · obtain rfl := zgo_inv hk2
            exact zr_copyl hx hb hml' hown hlink hnat hstat hini hKS.1 hR hS e0 e1 b1 b2 b3 b4 b5 (by omega) (by omega) hdg (fun H1 locs1 hR1 hS1 => kk H1 locs1 ls hR1 hS1 hlv)
        · cases h
      · split at h
        · rename_i b1 rest hk1
          obtain ⟨rfl, hlen⟩ := hk1
          rw [if_neg (by decide), if_pos rfl] at hw2
          have hcat := zcat4 hlen
          obtain rfl := zgo_inv h
          exact vn_f2i hx hb hml' hown (hts _ (zg hw2 rfl)) (hts _ (znatg 3 rfl rfl)) (hts _ (znatg 4 rfl rfl)) (hts _ (znatg 5 rfl rfl)) (by omega) (by omega) hdg (kk H locs ls hR hS hlv)
        · split at h
          · rename_i b1 rest _ hk1
            obtain ⟨rfl, hlen, hnn⟩ := hk1
            rw [if_neg (by decide), if_neg (by decide), if_neg (by decide), if_neg (by decide), if_pos rfl] at hw2
            obtain rfl := zgo_inv h
            exact zr_absf hx hb hml' hown hts (hts _ (znatg 13 rfl rfl)) (hts _ (znatg 14 rfl rfl)) (hts _ (zg hw2 rfl)) hnn hlen (by omega) (by omega) hc hdg (kk H locs ls hR hS hlv)
          · cases h
      · split at h
        · rename_i b1 rest hk1
          obtain ⟨rfl, hlen, hsn⟩ := hk1
          rw [if_neg (by decide), if_neg (by decide), if_pos rfl] at hw2
          have hcat := zcat4 hlen
          obtain rfl := zgo_inv h
          exact vn_i2f hx hb hml' hown (hts _ (zg hw2 rfl)) (hts _ (znatg 6 rfl rfl)) (hts _ (znatg 7 rfl rfl)) (hts _ (znatg 5 rfl rfl)) hsn (by omega) (by omega) hdg (kk H locs ls hR hS hlv)
        · cases h
      · split at h
        · rename_i b1 rest hk1
          obtain ⟨rfl, hlen⟩ := hk1
          rw [if_neg (by decide), if_neg (by decide), if_neg (by decide), if_pos rfl] at hw2
          have hcat := zcat4 hlen
          obtain rfl := zgo_inv h
          exact vn_d2l hx hb hml' hown (hts _ (zg hw2 rfl)) (hts _ (znatg 8 rfl rfl)) (hts _ (znatg 9 rfl rfl)) (hts _ (znatg 10 rfl rfl)) (by omega) (by omega) hdg (kk H locs ls hR hS hlv)
        · cases h
      · cases h
  · cases h
theorem z_callI {code : ByteArray} {own rt idx d : Nat} {M : zM} {L : zLoc} {st : List Value} {b : Bool} {s' : zS} {n0 m0 : Nat} (C : zCtx p l s m args meth c R D dA base d own rt code M) (hml : c.maxLocals = L.length) (hR : zRel D dA base w s H) (hS : va_S (fun q => base ≤ q) H0 H locs) (hlv : zlv ls L)
    (hdg : decode code pc = .ok (.invokespecial idx, 3)) (h : zcallI M own idx pc L st w = some (.inl (b, s'))) (hn : n0 ≤ w.1.1 ∧ m0 ≤ w.1.2) (hc : s'.2.2.2.1.1 - n0 ≤ R.cells ∧ s'.2.2.2.1.2 - m0 ≤ R.slots)
    (kk : ∀ (H1 : Heap) (locs1 : List Loc) (ls1 : Array Slot), zRel D dA base s'.2.2.2 s H1 → va_S (fun q => base ≤ q) H0 H1 locs1 → zlv ls1 s'.2.1 → W p l e R s m args below meth c H1 locs1 (s'.2.2.2.1.1 - n0) (s'.2.2.2.1.2 - m0) Q (F0 m s'.1 ls1 s'.2.2.1)) :
    W p l e R s m args below meth c H locs (w.1.1 - n0) (w.1.2 - m0) Q (F0 m pc ls st) := by
  obtain ⟨hx, hb, hown, hts, hKS, hctor, hF, hL, hM⟩ := C
  have hml' : c.maxLocals = ls.size := hml.trans hlv.1.symm
  unfold zcallI at h
  split at h
  · rename_i k ne hlk
    split at h
    · rename_i y0 ow np kind rt1 hk
      split at h
      · rename_i As b0 rest hpop
        split at h
        · rename_i hkind
          obtain ⟨v, w1, hMk, rfl⟩ := zback_inv h
          obtain ⟨A, rfl, hst, hlen⟩ := zpop_inv hpop
          rw [List.append_nil] at *
          have ht : ((y0, (ow, np, kind, rt1)) : zMT) ∈ zMeths := List.mem_of_getElem? hk
          obtain ⟨hle, hMet⟩ := hM k _ hk _ _ _ _ hMk
          obtain ⟨g1, g2, g3, g4, g5⟩ := zm_facts3 ht
          obtain ⟨i1, i2⟩ := g3 hkind.1
          dsimp only at i1 i2 g2
          subst i2
          have hret : y0.2.2.2 = none := g2
          have hpre : PreS s H (zPc D dA base (.ref b0 :: A) w) (.ref b0 :: A) := ⟨zPc_blind, zPc_at hKS hR⟩
          have hin : (Cond.instanceMethod y0.1).before args s = true := hts _ (zg (zm_inst ht (by dsimp only; omega)) rfl)
          dsimp only at hc kk
          have fin : ∀ (hr : va_Run p l e R s m args below meth c H locs (w.1.1 - n0) (w.1.2 - m0) (w1.1.1 - w.1.1) (w1.1.2 - w.1.2) (F0 m pc ls st) rest (zQc D dA base v w1 (Value.ref b0 :: A).toArray) (fun q => base ≤ q)), W p l e R s m args below meth c H locs (w.1.1 - n0) (w.1.2 - m0) Q (F0 m pc ls st) := by
            intro hr
            refine z_call hr hS fun H1 locs1 hR1 hS1 => ?_
            have e1 : w.1.1 - n0 + (w1.1.1 - w.1.1) = w1.1.1 - n0 := by have := hle.1; omega
            have e2 : w.1.2 - m0 + (w1.1.2 - w.1.2) = w1.1.2 - m0 := by have := hle.2; omega
            rw [e1, e2]
            exact kk H1 locs1 ls hR1 hS1 hlv
          have hfit : w.1.1 - n0 + (w1.1.1 - w.1.1) ≤ R.cells ∧ w.1.2 - m0 + (w1.1.2 - w.1.2) ≤ R.slots := by
            have := hle.1; have := hle.2; omega
          by_cases hne : ne = 0
          · have hB := z_callB (w := w) (w' := w1) (R := R) ht hk hts (zlk_mem hlk) hne hF hL
            dsimp only at hB
            rw [hret] at hB
            exact fin (va_runI ⟨hx, hb, hml', hown, hts⟩ hMet ⟨hB, i1, hin⟩ hpre rfl hlen rfl hst (lv_room (zcat4 hkind.2)) hdg hfit)
          · have hB := z_callN (w := w) (w' := w1) (R := R) ht hk hts hKS (zlk_mem hlk) hne hF hL
            dsimp only at hB
            rw [hret] at hB
            exact fin (va_runIN ⟨hx, hb, hml', hown, hts⟩ hMet ⟨hB, i1, hin⟩ hpre rfl hlen rfl hst (lv_room (zcat4 hkind.2)) hdg hfit)
        · cases h
      · cases h
    · rename_i hk
      split at h
      · split at h
        · rename_i a0 rest hk1
          obtain ⟨rfl, hlen⟩ := hk1
          obtain ⟨hw1, hw2⟩ := zlk_native (zlk_mem hlk) hk
          rw [hw1, if_neg (by decide), if_neg (by decide), if_neg (by decide), if_neg (by decide), if_neg (by decide)] at hw2
          obtain rfl := zgo_inv h
          have hcat := zcat4 hlen
          exact W.objInit hx hb hown (hts _ (zg hw2 rfl)) (hts _ (znatg 11 rfl rfl)) (hts _ (znatg 12 rfl rfl)) rfl hml'.symm rfl hdg (by omega) (by show 2 * 0 + _ + 12 ≤ _; omega) (kk H locs ls hR hS hlv)
        · cases h
      · cases h
  · cases h
end ZSTEP
