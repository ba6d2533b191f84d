/-! ===== the reference is made ===== -/
/-- an object at place h under way: the cells behind it hold C -/
def zbc (b h n : Nat) (f g : Nat → Option zC) (obj : zC) (C : Nat → zC) : Prop := g (b + h) = some obj ∧ (∀ i, 1 ≤ i → i < n → g (b + (h + i)) = some (C i)) ∧ ∀ a, a < b + h ∨ b + (h + n) ≤ a → g a = f a
def zcf (b h n : Nat) (f : Nat → Option zC) (obj : zC) (C : Nat → zC) : Nat → Option zC := fun a => if a = b + h then some obj else if b + h < a ∧ a < b + (h + n) then some (C (a - b - h)) else f a
section ZBC
variable {b h n : Nat} {f g : Nat → Option zC} {obj : zC} {C : Nat → zC}
theorem zbc_0 (h0 : f (b + h) = some obj) : zbc b h 1 f f obj C := ⟨h0, fun i h1 h2 => by omega, fun _ _ => rfl⟩
theorem zbc_put {obj' : zC} (H : zbc b h n f g obj C) (hn : 1 ≤ n) : zbc b h n f (zup g (b + h) (some obj')) obj' C := by
  obtain ⟨h1, h2, h3⟩ := H
  refine ⟨zup_eq, fun i i1 i2 => ?_, fun a ha => ?_⟩
  · rw [zup_ne (by omega)]; exact h2 i i1 i2
  · rw [zup_ne (by omega)]; exact h3 a ha
theorem zbc_arr {c : zC} (H : zbc b h n f g obj C) (hn : 1 ≤ n) (hc : C n = c) : zbc b h (n + 1) f (zup g (b + (h + n)) (some c)) obj C := by
  obtain ⟨h1, h2, h3⟩ := H
  refine ⟨by rw [zup_ne (by omega)]; exact h1, fun i i1 i2 => ?_, fun a ha => ?_⟩
  · by_cases q : i = n
    · rw [q, zup_eq, hc]
    · rw [zup_ne (by omega)]; exact h2 i i1 (by omega)
  · rw [zup_ne (by omega)]; exact h3 a (by omega)
theorem zbc_mod {c : zC} {e : Nat} (H : zbc b h n f g obj C) (he : 1 ≤ e ∧ e < n) : zbc b h n f (zup g (b + (h + e)) (some c)) obj (zup C e c) := by
  obtain ⟨h1, h2, h3⟩ := H
  refine ⟨by rw [zup_ne (by omega)]; exact h1, fun i i1 i2 => ?_, fun a ha => ?_⟩
  · by_cases q : i = e
    · rw [q, zup_eq, zup_eq]
    · rw [zup_ne (by omega), zup_ne q]; exact h2 i i1 i2
  · rw [zup_ne (by omega)]; exact h3 a ha
theorem zbc_of (hn : 1 ≤ n) : zbc b h n f (zcf b h n f obj C) obj C := by
  refine ⟨if_pos rfl, fun i i1 i2 => ?_, fun a ha => ?_⟩
  · unfold zcf
    rw [if_neg (by omega), if_pos (by omega), show b + (h + i) - b - h = i by omega]
  · unfold zcf
    rw [if_neg (by omega), if_neg (by omega)]
theorem zbc_can (H : zbc b h n f g obj C) (hn : 1 ≤ n) : g = zcf b h n f obj C := by
  obtain ⟨h1, h2, h3⟩ := H
  funext a
  unfold zcf
  by_cases q : a = b + h
  · rw [if_pos q, q, h1]
  · rw [if_neg q]
    by_cases q2 : b + h < a ∧ a < b + (h + n)
    · rw [if_pos q2]
      obtain ⟨i, rfl⟩ : ∃ i, a = b + (h + i) := ⟨a - b - h, by omega⟩
      rw [show b + (h + i) - b - h = i by omega]
      exact h2 i (by omega) (by omega)
    · rw [if_neg q2]
      exact h3 a (by omega)
theorem zbc_end (H : zbc b h n f g obj C) (hn : 1 ≤ n) (ho : zc0 b h = obj) (hc : ∀ i, 1 ≤ i → i < n → C i = zc0 b (h + i)) : g = zx b h n f := by
  obtain ⟨h1, h2, h3⟩ := H
  funext a
  by_cases q : b + h ≤ a ∧ a < b + (h + n)
  · obtain ⟨i, rfl⟩ : ∃ i, a = b + (h + i) := ⟨a - b - h, by omega⟩
    rw [zx_in (by omega)]
    by_cases q0 : i = 0
    · subst q0
      show g (b + h) = some (zc0 b h)
      rw [h1, ho]
    · rw [h2 i (by omega) (by omega), hc i (by omega) (by omega)]
  · rw [zx_out (by omega)]
    exact h3 a (by omega)
end ZBC
section MODELMADE
variable {d b h sl : Nat} {f : Nat → Option zC}
theorem iX12 (hh : h = 165) (h0 : f (b + h) = some (.inr (12, [.null, .null, .int 0, .null, .null, .null, .null, .null, .null, .int 0, .int 0, .int 0, .int 0, .int 0, .int 0, .null, .null, .null, .null, .null, .null]))) : zcall (d + 1) kX12_init [.ref (b + h)] ((b + (h + 1), sl), f) = some (none, ((b + (h + 15), sl + 4430), zx b h 15 f)) := by
  have eS0 : zcp (fun _ => 1000) (fun _ => (0 : Int)) 0 1330 ((0 : Nat) : Int) = fun _ => 0 := zcp_0'
  have eT0 : zcp (fun _ => -5) (fun _ => (0 : Int)) 0 0 ((0 : Nat) : Int) = fun _ => 0 := zcp_0'
  obtain ⟨C, hC⟩ : ∃ C : Nat → zC, C = (fun i => if i = 1 then (.inl (0, 1550, .inl (zAI (zcp (fun _ => 1000) (fun _ => 0) 0 1330 ((0 : Nat) : Int)))) : zC) else if i = 11 then (.inl (0, 6, .inl (zAI (zcp (fun _ => -5) (fun _ => 0) 0 0 ((0 : Nat) : Int)))) : zC) else zc0 b (h + i)) := ⟨_, rfl⟩
  have hC1 : C 1 = .inl (0, 1550, .inl (zAI (fun _ => 0))) := by
    rw [hC]
    dsimp only
    rw [if_pos rfl, eS0]
  have hC11 : C 11 = .inl (0, 6, .inl (zAI (fun _ => 0))) := by
    rw [hC]
    dsimp only
    rw [if_neg (by decide), if_pos rfl, eT0]
  have hCo : ∀ i, i ≠ 1 → i ≠ 11 → C i = zc0 b (h + i) := fun i i1 i2 => by
    rw [hC]
    dsimp only
    rw [if_neg i1, if_neg i2]
  have g0 := zbc_0 (C := C) h0
  have g1 := zbc_arr (c := .inl (0, 1550, .inl (zAI (fun _ => 0)))) g0 (by decide) hC1
  have e1 := g1.1
  have g2 := zbc_put (obj' := .inr (12, [.ref (b + (h + 1)), .null, .int 0, .null, .null, .null, .null, .null, .null, .int 0, .int 0, .int 0, .int 0, .int 0, .int 0, .null, .null, .null, .null, .null, .null])) g1 (by decide)
  have g3 := zbc_arr (c := .inl (0, 1550, .inl (zAI (fun _ => 0)))) g2 (by decide) ((hCo 2 (by decide) (by decide)).trans (zc_int (by rw [hh]; rfl : zlay (h + 2) = _) (by rw [hh]; exact α0_z (by decide) : α0 (h + 2) = fun _ => 0)))
  have e3 := g3.1
  have g4 := zbc_put (obj' := .inr (12, [.ref (b + (h + 1)), .ref (b + (h + 2)), .int 0, .null, .null, .null, .null, .null, .null, .int 0, .int 0, .int 0, .int 0, .int 0, .int 0, .null, .null, .null, .null, .null, .null])) g3 (by decide)
  have g5 := zbc_arr (c := .inl (0, 120, .inl (zAI (fun _ => 0)))) g4 (by decide) ((hCo 3 (by decide) (by decide)).trans (zc_int (by rw [hh]; rfl : zlay (h + 3) = _) (by rw [hh]; exact α0_z (by decide) : α0 (h + 3) = fun _ => 0)))
  have e5 := g5.1
  have g6 := zbc_put (obj' := .inr (12, [.ref (b + (h + 1)), .ref (b + (h + 2)), .int 0, .ref (b + (h + 3)), .null, .null, .null, .null, .null, .int 0, .int 0, .int 0, .int 0, .int 0, .int 0, .null, .null, .null, .null, .null, .null])) g5 (by decide)
  have g7 := zbc_arr (c := .inl (0, 640, .inl (zAI (fun _ => 0)))) g6 (by decide) ((hCo 4 (by decide) (by decide)).trans (zc_int (by rw [hh]; rfl : zlay (h + 4) = _) (by rw [hh]; exact α0_z (by decide) : α0 (h + 4) = fun _ => 0)))
  have e7 := g7.1
  have g8 := zbc_put (obj' := .inr (12, [.ref (b + (h + 1)), .ref (b + (h + 2)), .int 0, .ref (b + (h + 3)), .ref (b + (h + 4)), .null, .null, .null, .null, .int 0, .int 0, .int 0, .int 0, .int 0, .int 0, .null, .null, .null, .null, .null, .null])) g7 (by decide)
  have g9 := zbc_arr (c := .inl (0, 40, .inl (zAI (fun _ => 0)))) g8 (by decide) ((hCo 5 (by decide) (by decide)).trans (zc_int (by rw [hh]; rfl : zlay (h + 5) = _) (by rw [hh]; exact α0_z (by decide) : α0 (h + 5) = fun _ => 0)))
  have e9 := g9.1
  have g10 := zbc_put (obj' := .inr (12, [.ref (b + (h + 1)), .ref (b + (h + 2)), .int 0, .ref (b + (h + 3)), .ref (b + (h + 4)), .ref (b + (h + 5)), .null, .null, .null, .int 0, .int 0, .int 0, .int 0, .int 0, .int 0, .null, .null, .null, .null, .null, .null])) g9 (by decide)
  have g11 := zbc_arr (c := .inl (0, 40, .inl (zAI (fun _ => 0)))) g10 (by decide) ((hCo 6 (by decide) (by decide)).trans (zc_int (by rw [hh]; rfl : zlay (h + 6) = _) (by rw [hh]; exact α0_z (by decide) : α0 (h + 6) = fun _ => 0)))
  have e11 := g11.1
  have g12 := zbc_put (obj' := .inr (12, [.ref (b + (h + 1)), .ref (b + (h + 2)), .int 0, .ref (b + (h + 3)), .ref (b + (h + 4)), .ref (b + (h + 5)), .ref (b + (h + 6)), .null, .null, .int 0, .int 0, .int 0, .int 0, .int 0, .int 0, .null, .null, .null, .null, .null, .null])) g11 (by decide)
  have g13 := zbc_arr (c := .inl (0, 40, .inl (zAI (fun _ => 0)))) g12 (by decide) ((hCo 7 (by decide) (by decide)).trans (zc_int (by rw [hh]; rfl : zlay (h + 7) = _) (by rw [hh]; exact α0_z (by decide) : α0 (h + 7) = fun _ => 0)))
  have e13 := g13.1
  have g14 := zbc_put (obj' := .inr (12, [.ref (b + (h + 1)), .ref (b + (h + 2)), .int 0, .ref (b + (h + 3)), .ref (b + (h + 4)), .ref (b + (h + 5)), .ref (b + (h + 6)), .ref (b + (h + 7)), .null, .int 0, .int 0, .int 0, .int 0, .int 0, .int 0, .null, .null, .null, .null, .null, .null])) g13 (by decide)
  have g15 := zbc_arr (c := .inl (1, 40, .inr (.inl (zAL (fun _ => 0))))) g14 (by decide) ((hCo 8 (by decide) (by decide)).trans (zc_lng (by rw [hh]; rfl : zlay (h + 8) = _)))
  have e15 := g15.1
  have g16 := zbc_put (obj' := .inr (12, [.ref (b + (h + 1)), .ref (b + (h + 2)), .int 0, .ref (b + (h + 3)), .ref (b + (h + 4)), .ref (b + (h + 5)), .ref (b + (h + 6)), .ref (b + (h + 7)), .ref (b + (h + 8)), .int 0, .int 0, .int 0, .int 0, .int 0, .int 0, .null, .null, .null, .null, .null, .null])) g15 (by decide)
  have g17 := zbc_arr (c := .inl (2, 40, .inr (.inr (.inl (zAF (fun _ => 0)))))) g16 (by decide) ((hCo 9 (by decide) (by decide)).trans (zc_flt (by rw [hh]; rfl : zlay (h + 9) = _)))
  have e17 := g17.1
  have g18 := zbc_put (obj' := .inr (12, [.ref (b + (h + 1)), .ref (b + (h + 2)), .int 0, .ref (b + (h + 3)), .ref (b + (h + 4)), .ref (b + (h + 5)), .ref (b + (h + 6)), .ref (b + (h + 7)), .ref (b + (h + 8)), .int 0, .int 0, .int 0, .int 0, .int 0, .int 0, .ref (b + (h + 9)), .null, .null, .null, .null, .null])) g17 (by decide)
  have g19 := zbc_arr (c := .inl (2, 8, .inr (.inr (.inl (zAF (fun _ => 0)))))) g18 (by decide) ((hCo 10 (by decide) (by decide)).trans (zc_flt (by rw [hh]; rfl : zlay (h + 10) = _)))
  have e19 := g19.1
  have g20 := zbc_put (obj' := .inr (12, [.ref (b + (h + 1)), .ref (b + (h + 2)), .int 0, .ref (b + (h + 3)), .ref (b + (h + 4)), .ref (b + (h + 5)), .ref (b + (h + 6)), .ref (b + (h + 7)), .ref (b + (h + 8)), .int 0, .int 0, .int 0, .int 0, .int 0, .int 0, .ref (b + (h + 9)), .ref (b + (h + 10)), .null, .null, .null, .null])) g19 (by decide)
  have g21 := zbc_arr (c := .inl (0, 6, .inl (zAI (fun _ => 0)))) g20 (by decide) hC11
  have e21 := g21.1
  have g22 := zbc_put (obj' := .inr (12, [.ref (b + (h + 1)), .ref (b + (h + 2)), .int 0, .ref (b + (h + 3)), .ref (b + (h + 4)), .ref (b + (h + 5)), .ref (b + (h + 6)), .ref (b + (h + 7)), .ref (b + (h + 8)), .int 0, .int 0, .int 0, .int 0, .int 0, .int 0, .ref (b + (h + 9)), .ref (b + (h + 10)), .ref (b + (h + 11)), .null, .null, .null])) g21 (by decide)
  have g23 := zbc_arr (c := .inl (0, 6, .inl (zAI (fun _ => 0)))) g22 (by decide) ((hCo 12 (by decide) (by decide)).trans (zc_int (by rw [hh]; rfl : zlay (h + 12) = _) (by rw [hh]; exact α0_z (by decide) : α0 (h + 12) = fun _ => 0)))
  have e23 := g23.1
  have g24 := zbc_put (obj' := .inr (12, [.ref (b + (h + 1)), .ref (b + (h + 2)), .int 0, .ref (b + (h + 3)), .ref (b + (h + 4)), .ref (b + (h + 5)), .ref (b + (h + 6)), .ref (b + (h + 7)), .ref (b + (h + 8)), .int 0, .int 0, .int 0, .int 0, .int 0, .int 0, .ref (b + (h + 9)), .ref (b + (h + 10)), .ref (b + (h + 11)), .ref (b + (h + 12)), .null, .null])) g23 (by decide)
  have g25 := zbc_arr (c := .inl (0, 300, .inl (zAI (fun _ => 0)))) g24 (by decide) ((hCo 13 (by decide) (by decide)).trans (zc_int (by rw [hh]; rfl : zlay (h + 13) = _) (by rw [hh]; exact α0_z (by decide) : α0 (h + 13) = fun _ => 0)))
  have e25 := g25.1
  have g26 := zbc_put (obj' := .inr (12, [.ref (b + (h + 1)), .ref (b + (h + 2)), .int 0, .ref (b + (h + 3)), .ref (b + (h + 4)), .ref (b + (h + 5)), .ref (b + (h + 6)), .ref (b + (h + 7)), .ref (b + (h + 8)), .int 0, .int 0, .int 0, .int 0, .int 0, .int 0, .ref (b + (h + 9)), .ref (b + (h + 10)), .ref (b + (h + 11)), .ref (b + (h + 12)), .ref (b + (h + 13)), .null])) g25 (by decide)
  have g27 := zbc_arr (c := .inl (0, 50, .inl (zAI (fun _ => 0)))) g26 (by decide) ((hCo 14 (by decide) (by decide)).trans (zc_int (by rw [hh]; rfl : zlay (h + 14) = _) (by rw [hh]; exact α0_z (by decide) : α0 (h + 14) = fun _ => 0)))
  have e27 := g27.1
  have g28 := zbc_put (obj' := .inr (12, [.ref (b + (h + 1)), .ref (b + (h + 2)), .int 0, .ref (b + (h + 3)), .ref (b + (h + 4)), .ref (b + (h + 5)), .ref (b + (h + 6)), .ref (b + (h + 7)), .ref (b + (h + 8)), .int 0, .int 0, .int 0, .int 0, .int 0, .int 0, .ref (b + (h + 9)), .ref (b + (h + 10)), .ref (b + (h + 11)), .ref (b + (h + 12)), .ref (b + (h + 13)), .ref (b + (h + 14))])) g27 (by decide)
  have w8 := zbc_can g28 (by decide)
  have zCC : zup C 1 (.inl (0, 1550, .inl (zAI (zcp (fun _ => 1000) (fun _ => 0) 0 1330 ((0 : Nat) : Int)))) : zC) = C := zup_id (by rw [hC1, eS0])
  rw [qX12_init rfl]
  rw [zruns_N 400]
  simp (disch := first | assumption | omega | decide | ((simp (disch := omega) only [zup_ne, zup_eq]); first | assumption | omega)) only [sX12_init_0, sX12_init_1, sX12_init_4, sX12_init_5, sX12_init_8, sX12_init_10, sX12_init_13, sX12_init_14, sX12_init_17, sX12_init_19, sX12_init_22, sX12_init_23, sX12_init_25, sX12_init_27, sX12_init_30, sX12_init_31, sX12_init_34, sX12_init_36, sX12_init_39, sX12_init_40, sX12_init_42, sX12_init_44, sX12_init_47, sX12_init_48, sX12_init_50, sX12_init_52, sX12_init_55, sX12_init_56, sX12_init_58, sX12_init_60, sX12_init_63, sX12_init_64, sX12_init_66, sX12_init_68, sX12_init_71, sX12_init_72, sX12_init_74, sX12_init_76, sX12_init_79, sX12_init_80, sX12_init_82, sX12_init_84, sX12_init_87, sX12_init_88, sX12_init_90, sX12_init_92, sX12_init_95, sX12_init_96, sX12_init_98, sX12_init_100, sX12_init_103, sX12_init_104, sX12_init_107, sX12_init_109, sX12_init_112, sX12_init_113, sX12_init_115, sX12_init_117, sX12_init_120, sX12_init_121, zkp_i, zkp_a, zkp_f, zkp_l, zkp_d, zkp_n, ycl_eq, zI_add, zI_sub, zI_mul, zI_neg, zI_inj, zI_lt, zI_le, zI_eq0, zI_lt0, zI_gt0, zI_le0, zI_ge0, yil_ok, yll_ok, yfl_ok, yis_ok, yls_ok, yfs_ok, y0_s, y1_s, ybo_ok, zset_w, zruns_if, zui_eq, zus_eq, zup_eq, Int.reduceAdd, Int.reduceSub, Int.reduceMul, Int.reduceNeg, Int.reduceLT, Int.reduceLE, Int.reduceEq, if_true, if_false, not_true_eq_false, not_false_eq_true, zw_165, zp_165_2, zp_165_9, zp_165_10, zp_165_11, zp_165_12, zp_165_13, zp_165_14, zw_166, zp_166, zw_167, zp_167, zw_168, zp_168, zw_169, zp_169, zw_170, zp_170, zw_171, zp_171, zw_172, zp_172, zw_173, zp_173, zw_174, zp_174, zw_175, zp_175, zw_176, zp_176, zw_177, zp_177, zw_178, zp_178, zw_179, zp_179, yg12_0, yg12_1, yg12_2, yg12_3, yg12_4, yg12_5, yg12_6, yg12_7, yg12_8, yg12_9, yg12_10, yg12_11, yg12_12, yg12_13, yg12_14, yg12_15, yg12_16, yg12_17, yg12_18, yg12_19, yg12_20, yp12_0, yp12_1, yp12_2, yp12_3, yp12_4, yp12_5, yp12_6, yp12_7, yp12_8, yp12_9, yp12_10, yp12_11, yp12_12, yp12_13, yp12_14, yp12_15, yp12_16, yp12_17, yp12_18, yp12_19, yp12_20, h0, e1, e3, e5, e7, e9, e11, e13, e15, e17, e19, e21, e23, e25, e27, nX12_init_8, nX12_init_17, nX12_init_25, nX12_init_34, nX12_init_42, nX12_init_50, nX12_init_58, nX12_init_66, nX12_init_74, nX12_init_82, nX12_init_90, nX12_init_98, nX12_init_107, nX12_init_115, zup_ne, znew_w, Nat.add_assoc, Nat.reduceAdd]
  rw [← zruns_N]
  rw [w8]
  conv => lhs; rw [← zCC]
  refine zloop (run := zruns (zcall d) 12 5 cX12_init) (fun i => (122, [some (.ref (b + h)), some (.int (zI i))], [], ((b + (h + 15), sl + 4430), zcf b h 15 f (.inr (12, [.ref (b + (h + 1)), .ref (b + (h + 2)), .int 0, .ref (b + (h + 3)), .ref (b + (h + 4)), .ref (b + (h + 5)), .ref (b + (h + 6)), .ref (b + (h + 7)), .ref (b + (h + 8)), .int 0, .int 0, .int 0, .int 0, .int 0, .int 0, .ref (b + (h + 9)), .ref (b + (h + 10)), .ref (b + (h + 11)), .ref (b + (h + 12)), .ref (b + (h + 13)), .ref (b + (h + 14))])) (zup C 1 (.inl (0, 1550, .inl (zAI (zcp (fun _ => 1000) (fun _ => 0) 0 1330 i))) : zC))))) 8 (fun i hi => ?_) ?_
  · have G := zbc_of (b := b) (h := h) (n := 15) (f := f) (obj := .inr (12, [.ref (b + (h + 1)), .ref (b + (h + 2)), .int 0, .ref (b + (h + 3)), .ref (b + (h + 4)), .ref (b + (h + 5)), .ref (b + (h + 6)), .ref (b + (h + 7)), .ref (b + (h + 8)), .int 0, .int 0, .int 0, .int 0, .int 0, .int 0, .ref (b + (h + 9)), .ref (b + (h + 10)), .ref (b + (h + 11)), .ref (b + (h + 12)), .ref (b + (h + 13)), .ref (b + (h + 14))])) (C := zup C 1 (.inl (0, 1550, .inl (zAI (zcp (fun _ => 1000) (fun _ => 0) 0 1330 i))) : zC)) (by decide)
    have x0 := G.1
    have x1 := G.2.1 1 (by decide) (by decide)
    rw [zup_eq] at x1
    have G1 := zbc_mod (c := (.inl (0, 1550, .inl (zAI (zcp (fun _ => 1000) (fun _ => 0) 0 1330 ((i + 1 : Nat) : Int)))) : zC)) (e := 1) G (by decide)
    rw [zup_up] at G1
    have w := zbc_can G1 (by decide)
    have e : zui (zcp (fun _ => 1000) (fun _ => (0 : Int)) 0 1330 i) (1330 + (i : Int)) 1000 = zcp (fun _ => 1000) (fun _ => 0) 0 1330 ((i + 1 : Nat) : Int) := zcp_g rfl
    rw [zruns_N 400]
    simp (disch := first | assumption | omega | decide | ((simp (disch := omega) only [zup_ne, zup_eq]); first | assumption | omega)) only [sX12_init_122, sX12_init_123, sX12_init_125, zkp_i, zkp_a, zkp_f, zkp_l, zkp_d, zkp_n, ycl_eq, zI_add, zI_sub, zI_mul, zI_neg, zI_inj, zI_lt, zI_le, zI_eq0, zI_lt0, zI_gt0, zI_le0, zI_ge0, yil_ok, yll_ok, yfl_ok, yis_ok, yls_ok, yfs_ok, y0_s, y1_s, ybo_ok, zset_w, zruns_if, zui_eq, zus_eq, zup_eq, Int.reduceAdd, Int.reduceSub, Int.reduceMul, Int.reduceNeg, Int.reduceLT, Int.reduceLE, Int.reduceEq, if_true, if_false, not_true_eq_false, not_false_eq_true, zw_165, zp_165_2, zp_165_9, zp_165_10, zp_165_11, zp_165_12, zp_165_13, zp_165_14, zw_166, zp_166, zw_167, zp_167, zw_168, zp_168, zw_169, zp_169, zw_170, zp_170, zw_171, zp_171, zw_172, zp_172, zw_173, zp_173, zw_174, zp_174, zw_175, zp_175, zw_176, zp_176, zw_177, zp_177, zw_178, zp_178, zw_179, zp_179, yg12_0, yg12_1, yg12_2, yg12_3, yg12_4, yg12_5, yg12_6, yg12_7, yg12_8, yg12_9, yg12_10, yg12_11, yg12_12, yg12_13, yg12_14, yg12_15, yg12_16, yg12_17, yg12_18, yg12_19, yg12_20, yp12_0, yp12_1, yp12_2, yp12_3, yp12_4, yp12_5, yp12_6, yp12_7, yp12_8, yp12_9, yp12_10, yp12_11, yp12_12, yp12_13, yp12_14, yp12_15, yp12_16, yp12_17, yp12_18, yp12_19, yp12_20]
    rw [if_neg (by omega)]
    rw [zruns_N 400]
    simp (disch := first | assumption | omega | decide | ((simp (disch := omega) only [zup_ne, zup_eq]); first | assumption | omega)) only [sX12_init_128, sX12_init_129, sX12_init_132, sX12_init_135, sX12_init_136, sX12_init_137, sX12_init_140, sX12_init_141, sX12_init_144, zkp_i, zkp_a, zkp_f, zkp_l, zkp_d, zkp_n, ycl_eq, zI_add, zI_sub, zI_mul, zI_neg, zI_inj, zI_lt, zI_le, zI_eq0, zI_lt0, zI_gt0, zI_le0, zI_ge0, yil_ok, yll_ok, yfl_ok, yis_ok, yls_ok, yfs_ok, y0_s, y1_s, ybo_ok, zset_w, zruns_if, zui_eq, zus_eq, zup_eq, Int.reduceAdd, Int.reduceSub, Int.reduceMul, Int.reduceNeg, Int.reduceLT, Int.reduceLE, Int.reduceEq, if_true, if_false, not_true_eq_false, not_false_eq_true, zw_165, zp_165_2, zp_165_9, zp_165_10, zp_165_11, zp_165_12, zp_165_13, zp_165_14, zw_166, zp_166, zw_167, zp_167, zw_168, zp_168, zw_169, zp_169, zw_170, zp_170, zw_171, zp_171, zw_172, zp_172, zw_173, zp_173, zw_174, zp_174, zw_175, zp_175, zw_176, zp_176, zw_177, zp_177, zw_178, zp_178, zw_179, zp_179, yg12_0, yg12_1, yg12_2, yg12_3, yg12_4, yg12_5, yg12_6, yg12_7, yg12_8, yg12_9, yg12_10, yg12_11, yg12_12, yg12_13, yg12_14, yg12_15, yg12_16, yg12_17, yg12_18, yg12_19, yg12_20, yp12_0, yp12_1, yp12_2, yp12_3, yp12_4, yp12_5, yp12_6, yp12_7, yp12_8, yp12_9, yp12_10, yp12_11, yp12_12, yp12_13, yp12_14, yp12_15, yp12_16, yp12_17, yp12_18, yp12_19, yp12_20, x0, x1, e, zup_ne, znew_w, Nat.add_assoc, Nat.reduceAdd]
    rw [w]
    all_goals rfl
  · rw [zruns_N 400]
    simp (disch := first | assumption | omega | decide | ((simp (disch := omega) only [zup_ne, zup_eq]); first | assumption | omega)) only [sX12_init_122, sX12_init_123, sX12_init_125, zkp_i, zkp_a, zkp_f, zkp_l, zkp_d, zkp_n, ycl_eq, zI_add, zI_sub, zI_mul, zI_neg, zI_inj, zI_lt, zI_le, zI_eq0, zI_lt0, zI_gt0, zI_le0, zI_ge0, yil_ok, yll_ok, yfl_ok, yis_ok, yls_ok, yfs_ok, y0_s, y1_s, ybo_ok, zset_w, zruns_if, zui_eq, zus_eq, zup_eq, Int.reduceAdd, Int.reduceSub, Int.reduceMul, Int.reduceNeg, Int.reduceLT, Int.reduceLE, Int.reduceEq, if_true, if_false, not_true_eq_false, not_false_eq_true, zw_165, zp_165_2, zp_165_9, zp_165_10, zp_165_11, zp_165_12, zp_165_13, zp_165_14, zw_166, zp_166, zw_167, zp_167, zw_168, zp_168, zw_169, zp_169, zw_170, zp_170, zw_171, zp_171, zw_172, zp_172, zw_173, zp_173, zw_174, zp_174, zw_175, zp_175, zw_176, zp_176, zw_177, zp_177, zw_178, zp_178, zw_179, zp_179, yg12_0, yg12_1, yg12_2, yg12_3, yg12_4, yg12_5, yg12_6, yg12_7, yg12_8, yg12_9, yg12_10, yg12_11, yg12_12, yg12_13, yg12_14, yg12_15, yg12_16, yg12_17, yg12_18, yg12_19, yg12_20, yp12_0, yp12_1, yp12_2, yp12_3, yp12_4, yp12_5, yp12_6, yp12_7, yp12_8, yp12_9, yp12_10, yp12_11, yp12_12, yp12_13, yp12_14, yp12_15, yp12_16, yp12_17, yp12_18, yp12_19, yp12_20]
    rw [if_pos (by omega)]
    rw [zruns_N 400]
    simp (disch := first | assumption | omega | decide | ((simp (disch := omega) only [zup_ne, zup_eq]); first | assumption | omega)) only [sX12_init_147, sX12_init_148, zkp_i, zkp_a, zkp_f, zkp_l, zkp_d, zkp_n, ycl_eq, zI_add, zI_sub, zI_mul, zI_neg, zI_inj, zI_lt, zI_le, zI_eq0, zI_lt0, zI_gt0, zI_le0, zI_ge0, yil_ok, yll_ok, yfl_ok, yis_ok, yls_ok, yfs_ok, y0_s, y1_s, ybo_ok, zset_w, zruns_if, zui_eq, zus_eq, zup_eq, Int.reduceAdd, Int.reduceSub, Int.reduceMul, Int.reduceNeg, Int.reduceLT, Int.reduceLE, Int.reduceEq, if_true, if_false, not_true_eq_false, not_false_eq_true, zw_165, zp_165_2, zp_165_9, zp_165_10, zp_165_11, zp_165_12, zp_165_13, zp_165_14, zw_166, zp_166, zw_167, zp_167, zw_168, zp_168, zw_169, zp_169, zw_170, zp_170, zw_171, zp_171, zw_172, zp_172, zw_173, zp_173, zw_174, zp_174, zw_175, zp_175, zw_176, zp_176, zw_177, zp_177, zw_178, zp_178, zw_179, zp_179, yg12_0, yg12_1, yg12_2, yg12_3, yg12_4, yg12_5, yg12_6, yg12_7, yg12_8, yg12_9, yg12_10, yg12_11, yg12_12, yg12_13, yg12_14, yg12_15, yg12_16, yg12_17, yg12_18, yg12_19, yg12_20, yp12_0, yp12_1, yp12_2, yp12_3, yp12_4, yp12_5, yp12_6, yp12_7, yp12_8, yp12_9, yp12_10, yp12_11, yp12_12, yp12_13, yp12_14, yp12_15, yp12_16, yp12_17, yp12_18, yp12_19, yp12_20]
    rw [← zruns_N]
    obtain ⟨D, hD⟩ : ∃ D : Nat → zC, D = zup C 1 (.inl (0, 1550, .inl (zAI (zcp (fun _ => 1000) (fun _ => 0) 0 1330 8))) : zC) := ⟨_, rfl⟩
    have hD11 : D 11 = (.inl (0, 6, .inl (zAI (zcp (fun _ => -5) (fun _ => 0) 0 0 ((0 : Nat) : Int)))) : zC) := by
      rw [hD, zup_ne (by decide), hC11, eT0]
    have zD : zup D 11 (.inl (0, 6, .inl (zAI (zcp (fun _ => -5) (fun _ => 0) 0 0 ((0 : Nat) : Int)))) : zC) = D := zup_id hD11.symm
    have hD' : zup C 1 (.inl (0, 1550, .inl (zAI (zcp (fun _ => 1000) (fun _ => 0) 0 1330 ((8 : Nat) : Int)))) : zC) = zup D 11 (.inl (0, 6, .inl (zAI (zcp (fun _ => -5) (fun _ => 0) 0 0 ((0 : Nat) : Int)))) : zC) := by rw [zD, hD]; rfl
    rw [hD']
    refine zloop (run := zruns (zcall d) 12 5 cX12_init) (fun i => (149, [some (.ref (b + h)), some (.int (zI i))], [], ((b + (h + 15), sl + 4430), zcf b h 15 f (.inr (12, [.ref (b + (h + 1)), .ref (b + (h + 2)), .int 0, .ref (b + (h + 3)), .ref (b + (h + 4)), .ref (b + (h + 5)), .ref (b + (h + 6)), .ref (b + (h + 7)), .ref (b + (h + 8)), .int 0, .int 0, .int 0, .int 0, .int 0, .int 0, .ref (b + (h + 9)), .ref (b + (h + 10)), .ref (b + (h + 11)), .ref (b + (h + 12)), .ref (b + (h + 13)), .ref (b + (h + 14))])) (zup D 11 (.inl (0, 6, .inl (zAI (zcp (fun _ => -5) (fun _ => 0) 0 0 i))) : zC))))) 6 (fun i hi => ?_) ?_
    · have G := zbc_of (b := b) (h := h) (n := 15) (f := f) (obj := .inr (12, [.ref (b + (h + 1)), .ref (b + (h + 2)), .int 0, .ref (b + (h + 3)), .ref (b + (h + 4)), .ref (b + (h + 5)), .ref (b + (h + 6)), .ref (b + (h + 7)), .ref (b + (h + 8)), .int 0, .int 0, .int 0, .int 0, .int 0, .int 0, .ref (b + (h + 9)), .ref (b + (h + 10)), .ref (b + (h + 11)), .ref (b + (h + 12)), .ref (b + (h + 13)), .ref (b + (h + 14))])) (C := zup D 11 (.inl (0, 6, .inl (zAI (zcp (fun _ => -5) (fun _ => 0) 0 0 i))) : zC)) (by decide)
      have x0 := G.1
      have x1 := G.2.1 11 (by decide) (by decide)
      rw [zup_eq] at x1
      have G1 := zbc_mod (c := (.inl (0, 6, .inl (zAI (zcp (fun _ => -5) (fun _ => 0) 0 0 ((i + 1 : Nat) : Int)))) : zC)) (e := 11) G (by decide)
      rw [zup_up] at G1
      have w := zbc_can G1 (by decide)
      have e : zui (zcp (fun _ => -5) (fun _ => (0 : Int)) 0 0 i) (i : Int) (-5) = zcp (fun _ => -5) (fun _ => 0) 0 0 ((i + 1 : Nat) : Int) := by
        have := zcp_g (F := fun _ => (-5 : Int)) (G := fun _ => 0) (s := 0) (t := 0) (v := -5) (i := i) rfl
        rw [Int.zero_add] at this
        exact this
      rw [zruns_N 400]
      simp (disch := first | assumption | omega | decide | ((simp (disch := omega) only [zup_ne, zup_eq]); first | assumption | omega)) only [sX12_init_149, sX12_init_150, sX12_init_152, zkp_i, zkp_a, zkp_f, zkp_l, zkp_d, zkp_n, ycl_eq, zI_add, zI_sub, zI_mul, zI_neg, zI_inj, zI_lt, zI_le, zI_eq0, zI_lt0, zI_gt0, zI_le0, zI_ge0, yil_ok, yll_ok, yfl_ok, yis_ok, yls_ok, yfs_ok, y0_s, y1_s, ybo_ok, zset_w, zruns_if, zui_eq, zus_eq, zup_eq, Int.reduceAdd, Int.reduceSub, Int.reduceMul, Int.reduceNeg, Int.reduceLT, Int.reduceLE, Int.reduceEq, if_true, if_false, not_true_eq_false, not_false_eq_true, zw_165, zp_165_2, zp_165_9, zp_165_10, zp_165_11, zp_165_12, zp_165_13, zp_165_14, zw_166, zp_166, zw_167, zp_167, zw_168, zp_168, zw_169, zp_169, zw_170, zp_170, zw_171, zp_171, zw_172, zp_172, zw_173, zp_173, zw_174, zp_174, zw_175, zp_175, zw_176, zp_176, zw_177, zp_177, zw_178, zp_178, zw_179, zp_179, yg12_0, yg12_1, yg12_2, yg12_3, yg12_4, yg12_5, yg12_6, yg12_7, yg12_8, yg12_9, yg12_10, yg12_11, yg12_12, yg12_13, yg12_14, yg12_15, yg12_16, yg12_17, yg12_18, yg12_19, yg12_20, yp12_0, yp12_1, yp12_2, yp12_3, yp12_4, yp12_5, yp12_6, yp12_7, yp12_8, yp12_9, yp12_10, yp12_11, yp12_12, yp12_13, yp12_14, yp12_15, yp12_16, yp12_17, yp12_18, yp12_19, yp12_20]
      rw [if_neg (by omega)]
      rw [zruns_N 400]
      simp (disch := first | assumption | omega | decide | ((simp (disch := omega) only [zup_ne, zup_eq]); first | assumption | omega)) only [sX12_init_155, sX12_init_156, sX12_init_159, sX12_init_160, sX12_init_162, sX12_init_163, sX12_init_166, zkp_i, zkp_a, zkp_f, zkp_l, zkp_d, zkp_n, ycl_eq, zI_add, zI_sub, zI_mul, zI_neg, zI_inj, zI_lt, zI_le, zI_eq0, zI_lt0, zI_gt0, zI_le0, zI_ge0, yil_ok, yll_ok, yfl_ok, yis_ok, yls_ok, yfs_ok, y0_s, y1_s, ybo_ok, zset_w, zruns_if, zui_eq, zus_eq, zup_eq, Int.reduceAdd, Int.reduceSub, Int.reduceMul, Int.reduceNeg, Int.reduceLT, Int.reduceLE, Int.reduceEq, if_true, if_false, not_true_eq_false, not_false_eq_true, zw_165, zp_165_2, zp_165_9, zp_165_10, zp_165_11, zp_165_12, zp_165_13, zp_165_14, zw_166, zp_166, zw_167, zp_167, zw_168, zp_168, zw_169, zp_169, zw_170, zp_170, zw_171, zp_171, zw_172, zp_172, zw_173, zp_173, zw_174, zp_174, zw_175, zp_175, zw_176, zp_176, zw_177, zp_177, zw_178, zp_178, zw_179, zp_179, yg12_0, yg12_1, yg12_2, yg12_3, yg12_4, yg12_5, yg12_6, yg12_7, yg12_8, yg12_9, yg12_10, yg12_11, yg12_12, yg12_13, yg12_14, yg12_15, yg12_16, yg12_17, yg12_18, yg12_19, yg12_20, yp12_0, yp12_1, yp12_2, yp12_3, yp12_4, yp12_5, yp12_6, yp12_7, yp12_8, yp12_9, yp12_10, yp12_11, yp12_12, yp12_13, yp12_14, yp12_15, yp12_16, yp12_17, yp12_18, yp12_19, yp12_20, x0, x1, e, zup_ne, znew_w, Nat.add_assoc, Nat.reduceAdd]
      rw [w]
      all_goals rfl
    · have G := zbc_of (b := b) (h := h) (n := 15) (f := f) (obj := .inr (12, [.ref (b + (h + 1)), .ref (b + (h + 2)), .int 0, .ref (b + (h + 3)), .ref (b + (h + 4)), .ref (b + (h + 5)), .ref (b + (h + 6)), .ref (b + (h + 7)), .ref (b + (h + 8)), .int 0, .int 0, .int 0, .int 0, .int 0, .int 0, .ref (b + (h + 9)), .ref (b + (h + 10)), .ref (b + (h + 11)), .ref (b + (h + 12)), .ref (b + (h + 13)), .ref (b + (h + 14))])) (C := zup D 11 (.inl (0, 6, .inl (zAI (zcp (fun _ => -5) (fun _ => 0) 0 0 ((6 : Nat) : Int)))) : zC)) (by decide)
      have w := zbc_end G (by decide) (by subst hh; rfl) (fun i i1 i2 => by
        by_cases q11 : i = 11
        · rw [q11, zup_eq]
          exact (zc_intG (by rw [hh]; rfl) (by rw [hh]; rfl)).symm
        · rw [zup_ne q11, hD]
          by_cases q1 : i = 1
          · rw [q1, zup_eq]
            exact (zc_intG (by rw [hh]; rfl) (by rw [hh]; rfl)).symm
          · rw [zup_ne q1]
            exact hCo i q1 q11)
      rw [zruns_N 400]
      simp (disch := first | assumption | omega | decide | ((simp (disch := omega) only [zup_ne, zup_eq]); first | assumption | omega)) only [sX12_init_149, sX12_init_150, sX12_init_152, zkp_i, zkp_a, zkp_f, zkp_l, zkp_d, zkp_n, ycl_eq, zI_add, zI_sub, zI_mul, zI_neg, zI_inj, zI_lt, zI_le, zI_eq0, zI_lt0, zI_gt0, zI_le0, zI_ge0, yil_ok, yll_ok, yfl_ok, yis_ok, yls_ok, yfs_ok, y0_s, y1_s, ybo_ok, zset_w, zruns_if, zui_eq, zus_eq, zup_eq, Int.reduceAdd, Int.reduceSub, Int.reduceMul, Int.reduceNeg, Int.reduceLT, Int.reduceLE, Int.reduceEq, if_true, if_false, not_true_eq_false, not_false_eq_true, zw_165, zp_165_2, zp_165_9, zp_165_10, zp_165_11, zp_165_12, zp_165_13, zp_165_14, zw_166, zp_166, zw_167, zp_167, zw_168, zp_168, zw_169, zp_169, zw_170, zp_170, zw_171, zp_171, zw_172, zp_172, zw_173, zp_173, zw_174, zp_174, zw_175, zp_175, zw_176, zp_176, zw_177, zp_177, zw_178, zp_178, zw_179, zp_179, yg12_0, yg12_1, yg12_2, yg12_3, yg12_4, yg12_5, yg12_6, yg12_7, yg12_8, yg12_9, yg12_10, yg12_11, yg12_12, yg12_13, yg12_14, yg12_15, yg12_16, yg12_17, yg12_18, yg12_19, yg12_20, yp12_0, yp12_1, yp12_2, yp12_3, yp12_4, yp12_5, yp12_6, yp12_7, yp12_8, yp12_9, yp12_10, yp12_11, yp12_12, yp12_13, yp12_14, yp12_15, yp12_16, yp12_17, yp12_18, yp12_19, yp12_20]
      rw [if_pos (by omega)]
      rw [zruns_N 400]
      simp (disch := first | assumption | omega | decide | ((simp (disch := omega) only [zup_ne, zup_eq]); first | assumption | omega)) only [sX12_init_169, zkp_i, zkp_a, zkp_f, zkp_l, zkp_d, zkp_n, ycl_eq, zI_add, zI_sub, zI_mul, zI_neg, zI_inj, zI_lt, zI_le, zI_eq0, zI_lt0, zI_gt0, zI_le0, zI_ge0, yil_ok, yll_ok, yfl_ok, yis_ok, yls_ok, yfs_ok, y0_s, y1_s, ybo_ok, zset_w, zruns_if, zui_eq, zus_eq, zup_eq, Int.reduceAdd, Int.reduceSub, Int.reduceMul, Int.reduceNeg, Int.reduceLT, Int.reduceLE, Int.reduceEq, if_true, if_false, not_true_eq_false, not_false_eq_true, zw_165, zp_165_2, zp_165_9, zp_165_10, zp_165_11, zp_165_12, zp_165_13, zp_165_14, zw_166, zp_166, zw_167, zp_167, zw_168, zp_168, zw_169, zp_169, zw_170, zp_170, zw_171, zp_171, zw_172, zp_172, zw_173, zp_173, zw_174, zp_174, zw_175, zp_175, zw_176, zp_176, zw_177, zp_177, zw_178, zp_178, zw_179, zp_179, yg12_0, yg12_1, yg12_2, yg12_3, yg12_4, yg12_5, yg12_6, yg12_7, yg12_8, yg12_9, yg12_10, yg12_11, yg12_12, yg12_13, yg12_14, yg12_15, yg12_16, yg12_17, yg12_18, yg12_19, yg12_20, yp12_0, yp12_1, yp12_2, yp12_3, yp12_4, yp12_5, yp12_6, yp12_7, yp12_8, yp12_9, yp12_10, yp12_11, yp12_12, yp12_13, yp12_14, yp12_15, yp12_16, yp12_17, yp12_18, yp12_19, yp12_20]
      exact congrArg (fun g => (some (none, ((b + (h + 15), sl + 4430), g)) : Option zA)) w
end MODELMADE
