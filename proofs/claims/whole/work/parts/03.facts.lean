/-! ===== what the tables say, decided ===== -/
theorem zl_lookup {α : Type} : ∀ {l : List (Nat × α)} {k : Nat} {v : α}, l.lookup k = some v → (k, v) ∈ l := by
  intro l
  induction l with
  | nil => intro k v h; simp [List.lookup] at h
  | cons a t ih =>
    intro k v h
    obtain ⟨b, u⟩ := a
    rw [List.lookup_cons] at h
    by_cases hk : (k == b) = true
    · rw [hk] at h
      have hb : k = b := by simpa using hk
      subst hb
      cases h
      exact List.mem_cons_self
    · simp only [Bool.not_eq_true] at hk
      rw [hk] at h
      exact List.mem_cons_of_mem _ (ih h)
theorem zvw (ci : Nat) (h : ci < 13) : vwCl[ci]? = some (zR ci, zT ci, zN ci) := by
  match ci, h with
  | 0, _ => rfl
  | 1, _ => rfl
  | 2, _ => rfl
  | 3, _ => rfl
  | 4, _ => rfl
  | 5, _ => rfl
  | 6, _ => rfl
  | 7, _ => rfl
  | 8, _ => rfl
  | 9, _ => rfl
  | 10, _ => rfl
  | 11, _ => rfl
  | 12, _ => rfl
  | n + 13, h => omega
theorem zty_ok (ci : Nat) (h : ci < 13) : ∀ k, k < zN ci → parseFieldDescriptor (zT ci k).2.2.1 = some (zTy ci k) := by
  match ci, h with
  | 0, _ => exact tyX0_ok
  | 1, _ => exact tyX1_ok
  | 2, _ => exact tyX2_ok
  | 3, _ => exact tyX3_ok
  | 4, _ => exact tyX4_ok
  | 5, _ => exact tyX5_ok
  | 6, _ => exact tyX6_ok
  | 7, _ => exact tyX7_ok
  | 8, _ => exact tyX8_ok
  | 9, _ => exact tyX9_ok
  | 10, _ => exact tyX10_ok
  | 11, _ => exact tyX11_ok
  | 12, _ => exact tyX12_ok
  | n + 13, h => omega
theorem znm_ok (ci : Nat) (h : ci < 13) : ∀ a, a < zN ci → ∀ b, b < zN ci → a ≠ b → (zT ci a).2.1 ≠ (zT ci b).2.1 := by
  match ci, h with
  | 0, _ => exact nmX0
  | 1, _ => exact nmX1
  | 2, _ => exact nmX2
  | 3, _ => exact nmX3
  | 4, _ => exact nmX4
  | 5, _ => exact nmX5
  | 6, _ => exact nmX6
  | 7, _ => exact nmX7
  | 8, _ => exact nmX8
  | 9, _ => exact nmX9
  | 10, _ => exact nmX10
  | 11, _ => exact nmX11
  | 12, _ => exact nmX12
  | n + 13, h => omega
/-- the words that a method's contract may carry -/
def lw_good : List Cond := lw_tbl.filter goodWord
set_option maxRecDepth 100000 in
theorem zws_ok : ∀ ci, ci < 13 → ∀ w ∈ u_ws (zR ci) (zT ci) (zN ci), w ∈ lw_tbl := by decide +kernel
theorem zsub_mem {a b : List Cond} (h : a.isSublist b = true) : ∀ w ∈ a, w ∈ b := fun w hw => (List.isSublist_iff_sublist.mp h).subset hw
theorem ztbl_mem {a : List Cond} (h : a.isSublist tables_1 = true) : ∀ w ∈ a, w ∈ lw_tbl := fun w hw => List.mem_append_right _ (zsub_mem h w hw)
set_option maxRecDepth 100000 in
theorem zm_code_0 : zMeths_0.map (fun q => Cond.code q.1.1 q.1.2.1 q.1.2.2.1 q.1.2.2.2) = ([24, 32, 38, 76, 80, 111, 145, 185, 201, 237, 255, 267, 292, 348, 351, 355, 359, 363, 367, 370, 374, 378, 381, 385, 389, 393, 397, 401, 405, 409] : List Nat).filterMap (fun i => tables_1[i]?) := rfl
set_option maxRecDepth 100000 in
theorem zm_code_1 : zMeths_1.map (fun q => Cond.code q.1.1 q.1.2.1 q.1.2.2.1 q.1.2.2.2) = ([412, 418, 422, 426, 430, 434, 438, 442, 446, 450, 454, 458, 462, 466, 470, 475, 478, 482, 486, 490, 495, 499, 503, 506, 511, 517, 521, 528, 532, 537] : List Nat).filterMap (fun i => tables_1[i]?) := rfl
set_option maxRecDepth 100000 in
theorem zm_code_2 : zMeths_2.map (fun q => Cond.code q.1.1 q.1.2.1 q.1.2.2.1 q.1.2.2.2) = ([541, 545, 549, 553, 557, 562, 566, 571, 576, 580, 585, 589, 593, 599, 603, 607, 610, 615, 619, 623, 627, 631, 635, 639, 643, 646, 650, 654, 658, 663] : List Nat).filterMap (fun i => tables_1[i]?) := rfl
set_option maxRecDepth 100000 in
theorem zm_code_3 : zMeths_3.map (fun q => Cond.code q.1.1 q.1.2.1 q.1.2.2.1 q.1.2.2.2) = ([667, 672, 678, 681, 685, 689, 693, 697, 702, 706, 710, 714, 719, 723, 729, 735, 739, 743, 748, 752, 758, 762, 766, 770, 774, 778, 782, 786, 790, 795] : List Nat).filterMap (fun i => tables_1[i]?) := rfl
set_option maxRecDepth 100000 in
theorem zm_code_4 : zMeths_4.map (fun q => Cond.code q.1.1 q.1.2.1 q.1.2.2.1 q.1.2.2.2) = ([799, 803, 807, 811, 815, 820, 825, 829, 833, 838, 842, 847, 853, 858, 862, 865, 869, 873, 877, 881, 885, 890, 893, 897, 902, 906, 910, 915, 919, 923] : List Nat).filterMap (fun i => tables_1[i]?) := rfl
set_option maxRecDepth 100000 in
theorem zm_code_5 : zMeths_5.map (fun q => Cond.code q.1.1 q.1.2.1 q.1.2.2.1 q.1.2.2.2) = ([928, 932, 937, 941, 945, 950, 954, 958, 962, 968, 972, 977, 982, 1051, 1054, 1058, 1062, 1066, 1070, 1074, 1078, 1082, 1086, 1090, 1094, 1098, 1101, 1109, 1113, 1117] : List Nat).filterMap (fun i => tables_1[i]?) := rfl
set_option maxRecDepth 100000 in
theorem zm_code_6 : zMeths_6.map (fun q => Cond.code q.1.1 q.1.2.1 q.1.2.2.1 q.1.2.2.2) = ([1121, 1125, 1129, 1133, 1137, 1141, 1145, 1149, 1152, 1156, 1160, 1164, 1168, 1172, 1176, 1180, 1184, 1188, 1192, 1196, 1201, 1204, 1208, 1212, 1216, 1220, 1224, 1228, 1232, 1236] : List Nat).filterMap (fun i => tables_1[i]?) := rfl
set_option maxRecDepth 100000 in
theorem zm_code_7 : zMeths_7.map (fun q => Cond.code q.1.1 q.1.2.1 q.1.2.2.1 q.1.2.2.2) = ([1240, 1244, 1248, 1252, 1256, 1260, 1265, 1269, 1273, 1277, 1281, 1293, 1297, 1301, 1305, 1309, 1313, 1317, 1321, 1326, 1329, 1333, 1337, 1341, 1345, 1350, 1354, 1358, 1362, 1366] : List Nat).filterMap (fun i => tables_1[i]?) := rfl
set_option maxRecDepth 100000 in
theorem zm_code_8 : zMeths_8.map (fun q => Cond.code q.1.1 q.1.2.1 q.1.2.2.1 q.1.2.2.2) = ([1370, 1374, 1377, 1386, 1390, 1394, 1398, 1402, 1406, 1410, 1414, 1418, 1422, 1426, 1430, 1434, 1438, 1442, 1446, 1450, 1454, 1458, 1464, 1468, 1472, 1476, 1480, 1484, 1488, 1492] : List Nat).filterMap (fun i => tables_1[i]?) := rfl
set_option maxRecDepth 100000 in
theorem zm_code_9 : zMeths_9.map (fun q => Cond.code q.1.1 q.1.2.1 q.1.2.2.1 q.1.2.2.2) = ([1495, 1499, 1503, 1507, 1511, 1515, 1519, 1523, 1527, 1531] : List Nat).filterMap (fun i => tables_1[i]?) := rfl
set_option maxRecDepth 100000 in
theorem zm_stat0 : ((zMeths.filter (fun q => q.2.2.2.1 == 0)).map (fun q => Cond.static q.1.1)).isSublist tables_1 = true := by decide +kernel
set_option maxRecDepth 100000 in
theorem zm_inst0 : ((zMeths.filter (fun q => q.2.2.2.1 != 0)).map (fun q => Cond.instanceMethod q.1.1)).isSublist tables_1 = true := by decide +kernel
set_option maxRecDepth 100000 in
theorem zm_sel0 : ((zMeths.filter (fun q => q.2.2.2.1 == 1)).map (fun q => Cond.selects q.1.1.cls q.1.1 q.1.1)).isSublist tables_1 = true := by decide +kernel
set_option maxRecDepth 100000 in
theorem zm_sel1 : ((zMeths.filter (fun q => q.2.2.2.1 == 3)).map (fun q => Cond.selects q.1.1.cls q.1.1 q.1.1)).isSublist (k2_sels lw_privs) = true := by decide +kernel
set_option maxRecDepth 100000 in
theorem zinit0 : (zOwns.filter (fun q => q.1 != 13)).all (fun q => decide (Cond.initialized q.2 ∈ lw_tbl)) = true := by decide +kernel
def zmOk2 (q : zMT) : Bool :=
  decide (q.1.1.cls = zR q.2.1) && decide (q.2.1 < 13 ∨ 20 ≤ q.2.1 ∧ q.2.1 < 24) &&
  decide ((parseMethodDescriptor q.1.1.desc).map (fun d => d.parameters.length) = some q.2.2.1) && decide (q.1.2.2.1 ≤ 10) && decide (q.2.2.2.1 ≤ 3)
def zmOk3 (q : zMT) : Bool :=
  decide (q.2.2.2.2 ≤ 5) && decide (q.1.2.2.2 = [none, some .int, some .boolean, some .long, some .float, none].getD q.2.2.2.2 none) &&
  (if q.2.2.2.1 = 2 then decide (q.1.1.name = "<init>") && decide (q.2.2.2.2 = 5) else decide (q.2.2.2.2 ≠ 5)) &&
  (if q.2.2.2.1 = 0 then true else decide (q.2.1 < 13))
set_option maxRecDepth 100000 in
theorem zmeths_ok2 : zMeths.all zmOk2 = true := by decide +kernel
set_option maxRecDepth 100000 in
theorem zmeths_ok3 : zMeths.all zmOk3 = true := by decide +kernel
theorem zowns_ok2 : (zOwns.filter (fun q => q.1 != 13)).all (fun q => decide (q.2 ≠ "java/lang/invoke/MethodHandle")) = true := by decide +kernel
theorem zowns_ok3 : (zOwns.filter (fun q => q.1 != 13)).all (fun q => decide (q.2 ≠ "java/lang/invoke/VarHandle")) = true := by decide +kernel
set_option maxRecDepth 100000 in
theorem zplain : zMeths.all (fun q => plainFor q.1.1) = true := by decide +kernel
/-- the links -/
def zlkW (q : Nat × Nat × Nat × Nat) : Cond := match zMeths[q.2.2.1]? with
  | some t => if q.2.2.2 = 0 then Cond.methodLink (zR q.1) q.2.1 t.1.1 else Cond.methodLinkNest (zR q.1) q.2.1 t.1.1 "PerfumeOrgan"
  | none => if q.2.2.1 = 1000 then Cond.methodLink (zR q.1) q.2.1 arraycopyName
    else if q.2.2.1 = 1001 then Cond.methodLink (zR q.1) q.2.1 ⟨"java/lang/Float", "floatToRawIntBits", "(F)I"⟩
    else if q.2.2.1 = 1002 then Cond.methodLink (zR q.1) q.2.1 ⟨"java/lang/Float", "intBitsToFloat", "(I)F"⟩
    else if q.2.2.1 = 1003 then Cond.methodLink (zR q.1) q.2.1 ⟨"java/lang/Double", "doubleToRawLongBits", "(D)J"⟩
    else if q.2.2.1 = 1005 then Cond.methodLink (zR q.1) q.2.1 ⟨"java/lang/Math", "abs", "(F)F"⟩
    else Cond.methodLink (zR q.1) q.2.1 objectInit
set_option maxRecDepth 100000 in
theorem zlks_ok : (zLks.map zlkW).isSublist tables_1 = true := by decide +kernel
def zflW (q : Nat × Nat × Nat × Nat) : Cond := Cond.fieldLink (zR q.1) q.2.1 (zT q.2.2.1 q.2.2.2).1 (zT q.2.2.1 q.2.2.2).2.1 (zT q.2.2.1 q.2.2.2).2.2.1
set_option maxRecDepth 100000 in
theorem zfls_ok : (zFls.map zflW).isSublist tables_1 = true := by decide +kernel
set_option maxRecDepth 100000 in
theorem zfls_ok2 : zFls.all (fun q => decide (q.2.2.1 < 13) && decide (q.2.2.2 < zN q.2.2.1) && decide ((zT q.2.2.1 q.2.2.2).1 = zR q.2.2.1)) = true := by decide +kernel
def zconW (q : Nat × Nat × Value) : Cond := match q.2.2 with
  | .int v => Cond.constant (zR q.1) q.2.1 v
  | .long v => Cond.constantLong (zR q.1) q.2.1 v
  | .float v => Cond.constantFloat (zR q.1) q.2.1 v
  | .double v => Cond.constantDouble (zR q.1) q.2.1 v
  | _ => Cond.tt
set_option maxRecDepth 100000 in
theorem zcons_ok : (zCons.map zconW).isSublist tables_1 = true := by decide +kernel
set_option maxRecDepth 100000 in
theorem zcls_ok : (zCls.map (fun q => Cond.classLink (zR q.1) q.2.1 (zR q.2.2))).isSublist tables_1 = true := by decide +kernel
set_option maxRecDepth 100000 in
theorem zcls_ok2 : zCls.all (fun q => decide (q.2.2 < 13) && decide (Cond.instantiable (zR q.2.2) (zN q.2.2) ∈ lw_tbl)) = true := by decide +kernel
theorem znew_ok : ∀ ci, ci < 13 → ∀ fs, zNew[ci]? = some fs → fs.length = zN ci ∧ ∀ j, j < zN ci → defaultValue (zTy ci j) = vp_V fs j := by
  intro ci h fs hf
  have e : fs = (zNew[ci]?).getD [] := by rw [hf]; rfl
  subst e
  clear hf
  revert ci
  decide +kernel
