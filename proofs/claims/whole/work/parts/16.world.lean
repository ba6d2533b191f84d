/-! ===== THE ONE WORLD: both systems' cells, by their places from the base on ===== -/
/-- what stands at a place: its kind (0 ints, 1 longs, 2 floats, 3 bytes, 4 the row of mixtures, 5 the row of rows, 10 and its class an object), its length -/
def zlayH (j : Nat) : Nat × Nat :=
  if 20 ≤ j then (if j % 2 = 0 then (13, 0) else (0, 40)) else
  ([(11, 0), (15, 0), (1, 40), (0, 40), (0, 40), (0, 40), (0, 40), (4, 22), (19, 0), (0, 8), (0, 40), (0, 30), (0, 30), (0, 30), (16, 0), (0, 30), (0, 30), (0, 30), (0, 30), (0, 30)] : List (Nat × Nat)).getD j (0, 0)
def zlayT (j : Nat) : Nat × Nat :=
  ([(20, 0), (3, 120), (20, 0), (3, 520), (17, 0), (0, 60), (0, 60), (0, 60), (12, 0), (13, 0), (0, 40), (13, 0), (0, 40), (0, 40), (14, 0), (13, 0), (0, 40), (10, 0), (2, 40), (2, 40), (0, 40), (2, 8), (5, 6), (0, 200),
    (18, 0), (0, 50), (18, 0), (0, 50), (18, 0), (0, 50), (18, 0), (0, 50), (18, 0), (0, 50), (18, 0), (0, 50),
    (22, 0), (0, 1550), (0, 1550), (0, 120), (0, 640), (0, 40), (0, 40), (0, 40), (1, 40), (2, 40), (2, 8), (0, 6), (0, 6), (0, 300), (0, 50)] : List (Nat × Nat)).getD j (0, 0)
def zlay (k : Nat) : Nat × Nat := if k = 0 then (21, 0) else if k < 65 then zlayH (k - 1) else if k < 129 then zlayH (k - 65) else zlayT (k - 129)
def zAI (G : Int → Int) : Nat → Int32 := fun j => zI (G (j : Int))
def zAL (G : Int → Int) : Nat → Int64 := fun j => zL (G (j : Int))
def zAF (G : Int → UInt32) : Nat → UInt32 := fun j => G (j : Int)
/-- the fields of an object of a class at place k -/
def zflds (b k : Nat) (σ : Nat → Nat → Int) (ci : Nat) : List Value := match ci with
  | 0 => [.ref (b + (k + 1)), .ref (b + (k + 2)), .ref (b + (k + 3)), .ref (b + (k + 4)), .int (zI (σ k 4))]
  | 1 => [.ref (b + (k + 1)), .ref (b + (k + 7)), .ref (b + (k + 8)), .ref (b + (k + 14))]
  | 2 => [.ref (b + (k + 1)), .ref (b + (k + 3)), .ref (b + (k + 5))]
  | 3 => [.ref (b + (k + 1)), .int (zI (σ k 1))]
  | 4 => [.ref (b + (k + 1))]
  | 5 => [.ref (b + (k + 1)), .ref (b + (k + 2)), .ref (b + (k + 3)), .ref (b + (k + 4)), .ref (b + (k + 5)), .int (zI (σ k 5))]
  | 6 => [.ref (b + (k + 1)), .ref (b + (k + 2)), .ref (b + (k + 3)), .ref (b + (k + 4)), .ref (b + (k + 5)), .int (zI (σ k 5))]
  | 7 => [.ref (b + (k + 1)), .ref (b + (k + 2)), .ref (b + (k + 3)), .ref (b + 129), .ref (b + 2), .int (zI (σ k 5)), .int (zI (σ k 6)), .int (zI (σ k 7))]
  | 8 => [.ref (b + (k + 1)), .int (zI (σ k 1)), .int (zI (σ k 2)), .int (zI (σ k 3))]
  | 9 => [.ref (b + (k + 1)), .ref (b + (k + 2)), .ref (b + (k + 3)), .ref (b + (k + 4)), .ref (b + (k + 5)), .int (zI (σ k 5))]
  | 10 => [.ref (b + (k + 1)), .int (zI (σ k 1))]
  | 11 => [.ref (b + 1), .ref (b + 65), .int (zI (σ k 2)), .ref (b + 129), .ref (b + 131), .ref (b + 133), .ref (b + 137), .ref (b + 143), .ref (b + 146), .ref (b + 151), .ref (b + 152)]
  | _ => [.ref (b + (k + 1)), .ref (b + (k + 2)), .int (zI (σ k 2)), .ref (b + (k + 3)), .ref (b + (k + 4)), .ref (b + (k + 5)), .ref (b + (k + 6)), .ref (b + (k + 7)), .ref (b + (k + 8)), .int (zI (σ k 9)), .int (zI (σ k 10)), .int (zI (σ k 11)), .int (zI (σ k 12)), .int (zI (σ k 13)), .int (zI (σ k 14)), .ref (b + (k + 9)), .ref (b + (k + 10)), .ref (b + (k + 11)), .ref (b + (k + 12)), .ref (b + (k + 13)), .ref (b + (k + 14))]
def zcell (b k : Nat) (σ : Nat → Nat → Int) (α lo : Nat → Int → Int) (φ : Nat → Int → UInt32) : zC := match zlay k with
  | (0, n) => .inl (0, n, .inl (zAI (α k)))
  | (1, n) => .inl (1, n, .inr (.inl (zAL (lo k))))
  | (2, n) => .inl (2, n, .inr (.inr (.inl (zAF (φ k)))))
  | (3, n) => .inl (3, n, .inl (zAI (α k)))
  | (4, n) => .inl (4, n, .inr (.inr (.inr (.inr (fun j => if j < n then some (b + (k + 13 + 2 * j)) else none)))))
  | (5, n) => .inl (5, n, .inr (.inr (.inr (.inr (fun j => if j < n then some (b + (k + 2 + 2 * j)) else none)))))
  | (c, _) => .inr (c - 10, zflds b k σ (c - 10))
def zw (b : Nat) (σ : Nat → Nat → Int) (α lo : Nat → Int → Int) (φ : Nat → Int → UInt32) : Nat → Option zC := fun a => if b ≤ a ∧ a < b + 180 then some (zcell b (a - b) σ α lo φ) else none
theorem zw_at {b k : Nat} {σ : Nat → Nat → Int} {α lo : Nat → Int → Int} {φ : Nat → Int → UInt32} (h : k < 180) : zw b σ α lo φ (b + k) = some (zcell b k σ α lo φ) := by
  unfold zw
  rw [if_pos (by omega), show b + k - b = k by omega]
def zus (σ : Nat → Nat → Int) (k j : Nat) (v : Int) : Nat → Nat → Int := fun k' j' => if k' = k ∧ j' = j then v else σ k' j'
def zui {α : Type} (G : Int → α) (k : Int) (v : α) : Int → α := fun j => if j = k then v else G j
theorem zus_eq {σ : Nat → Nat → Int} {k j : Nat} {v : Int} : zus σ k j v k j = v := if_pos ⟨rfl, rfl⟩
theorem zus_ne {σ : Nat → Nat → Int} {k j k' j' : Nat} {v : Int} (h : k' ≠ k ∨ j' ≠ j) : zus σ k j v k' j' = σ k' j' := if_neg (by omega)
theorem zui_eq {α : Type} {G : Int → α} {k : Int} {v : α} : zui G k v k = v := if_pos rfl
theorem zui_ne {α : Type} {G : Int → α} {k j : Int} {v : α} (h : j ≠ k) : zui G k v j = G j := if_neg h
theorem zup_eq {α : Type} {f : Nat → α} {k : Nat} {v : α} : zup f k v k = v := if_pos rfl
theorem zup_ne {α : Type} {f : Nat → α} {k j : Nat} {v : α} (h : j ≠ k) : zup f k v j = f j := if_neg h
/-- a cell of the world is written: how its contents changed -/
theorem zw_put {b k : Nat} {σ σ' : Nat → Nat → Int} {α lo α' lo' : Nat → Int → Int} {φ φ' : Nat → Int → UInt32} {c : zC} (h : k < 180) (hc : c = zcell b k σ' α' lo' φ') (ho : ∀ j, j < 180 → j ≠ k → zcell b j σ α lo φ = zcell b j σ' α' lo' φ') : zup (zw b σ α lo φ) (b + k) (some c) = zw b σ' α' lo' φ' := by
  funext a
  unfold zup
  by_cases e : a = b + k
  · rw [if_pos e, e, zw_at h, hc]
  · rw [if_neg e]
    unfold zw
    by_cases hb : b ≤ a ∧ a < b + 180
    · rw [if_pos hb, if_pos hb, ho (a - b) (by omega) (by omega)]
    · rw [if_neg hb, if_neg hb]
theorem zcell_same {b j : Nat} {σ σ' : Nat → Nat → Int} {α lo α' lo' : Nat → Int → Int} {φ φ' : Nat → Int → UInt32} (h1 : σ j = σ' j) (h2 : α j = α' j) (h3 : lo j = lo' j) (h4 : φ j = φ' j) : zcell b j σ α lo φ = zcell b j σ' α' lo' φ' := by
  have hf : ∀ ci, zflds b j σ ci = zflds b j σ' ci := by
    intro ci
    unfold zflds
    split <;> simp only [h1]
  unfold zcell
  split <;> simp only [h2, h3, h4, hf]
theorem zw_int {b k n : Nat} {σ : Nat → Nat → Int} {α lo : Nat → Int → Int} {φ : Nat → Int → UInt32} (hk : k < 180) (h : zlay k = (0, n)) : zw b σ α lo φ (b + k) = some (.inl (0, n, .inl (zAI (α k)))) := by
  rw [zw_at hk, zcell, h]
  rfl
theorem zw_byt {b k n : Nat} {σ : Nat → Nat → Int} {α lo : Nat → Int → Int} {φ : Nat → Int → UInt32} (hk : k < 180) (h : zlay k = (3, n)) : zw b σ α lo φ (b + k) = some (.inl (3, n, .inl (zAI (α k)))) := by
  rw [zw_at hk, zcell, h]
  rfl
theorem zw_lng {b k n : Nat} {σ : Nat → Nat → Int} {α lo : Nat → Int → Int} {φ : Nat → Int → UInt32} (hk : k < 180) (h : zlay k = (1, n)) : zw b σ α lo φ (b + k) = some (.inl (1, n, .inr (.inl (zAL (lo k))))) := by
  rw [zw_at hk, zcell, h]
  rfl
theorem zw_flt {b k n : Nat} {σ : Nat → Nat → Int} {α lo : Nat → Int → Int} {φ : Nat → Int → UInt32} (hk : k < 180) (h : zlay k = (2, n)) : zw b σ α lo φ (b + k) = some (.inl (2, n, .inr (.inr (.inl (zAF (φ k)))))) := by
  rw [zw_at hk, zcell, h]
  rfl
theorem zp_int {b k n : Nat} {σ : Nat → Nat → Int} {α lo : Nat → Int → Int} {φ : Nat → Int → UInt32} {G : Int → Int} (hk : k < 180) (h : zlay k = (0, n)) : zup (zw b σ α lo φ) (b + k) (some (.inl (0, n, .inl (zAI G)))) = zw b σ (zup α k G) lo φ :=
  zw_put hk (by rw [zcell, h, zup_eq]; rfl) (fun j _ hj => zcell_same rfl (by rw [zup_ne hj]) rfl rfl)
theorem zp_byt {b k n : Nat} {σ : Nat → Nat → Int} {α lo : Nat → Int → Int} {φ : Nat → Int → UInt32} {G : Int → Int} (hk : k < 180) (h : zlay k = (3, n)) : zup (zw b σ α lo φ) (b + k) (some (.inl (3, n, .inl (zAI G)))) = zw b σ (zup α k G) lo φ :=
  zw_put hk (by rw [zcell, h, zup_eq]; rfl) (fun j _ hj => zcell_same rfl (by rw [zup_ne hj]) rfl rfl)
theorem zp_lng {b k n : Nat} {σ : Nat → Nat → Int} {α lo : Nat → Int → Int} {φ : Nat → Int → UInt32} {G : Int → Int} (hk : k < 180) (h : zlay k = (1, n)) : zup (zw b σ α lo φ) (b + k) (some (.inl (1, n, .inr (.inl (zAL G))))) = zw b σ α (zup lo k G) φ :=
  zw_put hk (by rw [zcell, h, zup_eq]; rfl) (fun j _ hj => zcell_same rfl rfl (by rw [zup_ne hj]) rfl)
theorem zp_flt {b k n : Nat} {σ : Nat → Nat → Int} {α lo : Nat → Int → Int} {φ : Nat → Int → UInt32} {G : Int → UInt32} (hk : k < 180) (h : zlay k = (2, n)) : zup (zw b σ α lo φ) (b + k) (some (.inl (2, n, .inr (.inr (.inl (zAF G)))))) = zw b σ α lo (zup φ k G) :=
  zw_put hk (by rw [zcell, h, zup_eq]; rfl) (fun j _ hj => zcell_same rfl rfl rfl (by rw [zup_ne hj]))
theorem zus_at {σ : Nat → Nat → Int} {k j j' : Nat} {v : Int} (h : j' ≠ k) : σ j' = zus σ k j v j' := by
  funext i
  rw [zus_ne (Or.inl h)]
theorem zw_o0 {b k : Nat} {σ : Nat → Nat → Int} {α lo : Nat → Int → Int} {φ : Nat → Int → UInt32} (hk : k < 180) (h : zlay k = (10, 0)) : zw b σ α lo φ (b + k) = some (.inr (0, [.ref (b + (k + 1)), .ref (b + (k + 2)), .ref (b + (k + 3)), .ref (b + (k + 4)), .int (zI (σ k 4))])) := by
  rw [zw_at hk, zcell, h]
  rfl
theorem yg0_0 {v0 v1 v2 v3 v4 : Value} {K : Value → Option zA} : ygt 0 0 (some (.inr (0, [v0, v1, v2, v3, v4]))) K = K v0 := rfl
theorem yp0_0 {v0 v1 v2 v3 v4 u : Value} {K : zC → Option zA} : ypt 0 0 u (some (.inr (0, [v0, v1, v2, v3, v4]))) K = K (.inr (0, [u, v1, v2, v3, v4])) := rfl
theorem yg0_1 {v0 v1 v2 v3 v4 : Value} {K : Value → Option zA} : ygt 0 1 (some (.inr (0, [v0, v1, v2, v3, v4]))) K = K v1 := rfl
theorem yp0_1 {v0 v1 v2 v3 v4 u : Value} {K : zC → Option zA} : ypt 0 1 u (some (.inr (0, [v0, v1, v2, v3, v4]))) K = K (.inr (0, [v0, u, v2, v3, v4])) := rfl
theorem yg0_2 {v0 v1 v2 v3 v4 : Value} {K : Value → Option zA} : ygt 0 2 (some (.inr (0, [v0, v1, v2, v3, v4]))) K = K v2 := rfl
theorem yp0_2 {v0 v1 v2 v3 v4 u : Value} {K : zC → Option zA} : ypt 0 2 u (some (.inr (0, [v0, v1, v2, v3, v4]))) K = K (.inr (0, [v0, v1, u, v3, v4])) := rfl
theorem yg0_3 {v0 v1 v2 v3 v4 : Value} {K : Value → Option zA} : ygt 0 3 (some (.inr (0, [v0, v1, v2, v3, v4]))) K = K v3 := rfl
theorem yp0_3 {v0 v1 v2 v3 v4 u : Value} {K : zC → Option zA} : ypt 0 3 u (some (.inr (0, [v0, v1, v2, v3, v4]))) K = K (.inr (0, [v0, v1, v2, u, v4])) := rfl
theorem yg0_4 {v0 v1 v2 v3 v4 : Value} {K : Value → Option zA} : ygt 0 4 (some (.inr (0, [v0, v1, v2, v3, v4]))) K = K v4 := rfl
theorem yp0_4 {v0 v1 v2 v3 v4 u : Value} {K : zC → Option zA} : ypt 0 4 u (some (.inr (0, [v0, v1, v2, v3, v4]))) K = K (.inr (0, [v0, v1, v2, v3, u])) := rfl
theorem zp_o0_4 {b k : Nat} {v : Int} {σ : Nat → Nat → Int} {α lo : Nat → Int → Int} {φ : Nat → Int → UInt32} (hk : k < 180) (h : zlay k = (10, 0)) : zup (zw b σ α lo φ) (b + k) (some (.inr (0, [.ref (b + (k + 1)), .ref (b + (k + 2)), .ref (b + (k + 3)), .ref (b + (k + 4)), .int (zI v)]))) = zw b (zus σ k 4 v) α lo φ :=
  zw_put hk (by
    rw [zcell, h]
    show _ = (Sum.inr (0, zflds b k (zus σ k 4 v) 0) : zC)
    simp [zflds, zus]) (fun j _ hj => zcell_same (zus_at hj) rfl rfl rfl)
theorem zw_o1 {b k : Nat} {σ : Nat → Nat → Int} {α lo : Nat → Int → Int} {φ : Nat → Int → UInt32} (hk : k < 180) (h : zlay k = (11, 0)) : zw b σ α lo φ (b + k) = some (.inr (1, [.ref (b + (k + 1)), .ref (b + (k + 7)), .ref (b + (k + 8)), .ref (b + (k + 14))])) := by
  rw [zw_at hk, zcell, h]
  rfl
theorem yg1_0 {v0 v1 v2 v3 : Value} {K : Value → Option zA} : ygt 1 0 (some (.inr (1, [v0, v1, v2, v3]))) K = K v0 := rfl
theorem yp1_0 {v0 v1 v2 v3 u : Value} {K : zC → Option zA} : ypt 1 0 u (some (.inr (1, [v0, v1, v2, v3]))) K = K (.inr (1, [u, v1, v2, v3])) := rfl
theorem yg1_1 {v0 v1 v2 v3 : Value} {K : Value → Option zA} : ygt 1 1 (some (.inr (1, [v0, v1, v2, v3]))) K = K v1 := rfl
theorem yp1_1 {v0 v1 v2 v3 u : Value} {K : zC → Option zA} : ypt 1 1 u (some (.inr (1, [v0, v1, v2, v3]))) K = K (.inr (1, [v0, u, v2, v3])) := rfl
theorem yg1_2 {v0 v1 v2 v3 : Value} {K : Value → Option zA} : ygt 1 2 (some (.inr (1, [v0, v1, v2, v3]))) K = K v2 := rfl
theorem yp1_2 {v0 v1 v2 v3 u : Value} {K : zC → Option zA} : ypt 1 2 u (some (.inr (1, [v0, v1, v2, v3]))) K = K (.inr (1, [v0, v1, u, v3])) := rfl
theorem yg1_3 {v0 v1 v2 v3 : Value} {K : Value → Option zA} : ygt 1 3 (some (.inr (1, [v0, v1, v2, v3]))) K = K v3 := rfl
theorem yp1_3 {v0 v1 v2 v3 u : Value} {K : zC → Option zA} : ypt 1 3 u (some (.inr (1, [v0, v1, v2, v3]))) K = K (.inr (1, [v0, v1, v2, u])) := rfl
theorem zw_o2 {b k : Nat} {σ : Nat → Nat → Int} {α lo : Nat → Int → Int} {φ : Nat → Int → UInt32} (hk : k < 180) (h : zlay k = (12, 0)) : zw b σ α lo φ (b + k) = some (.inr (2, [.ref (b + (k + 1)), .ref (b + (k + 3)), .ref (b + (k + 5))])) := by
  rw [zw_at hk, zcell, h]
  rfl
theorem yg2_0 {v0 v1 v2 : Value} {K : Value → Option zA} : ygt 2 0 (some (.inr (2, [v0, v1, v2]))) K = K v0 := rfl
theorem yp2_0 {v0 v1 v2 u : Value} {K : zC → Option zA} : ypt 2 0 u (some (.inr (2, [v0, v1, v2]))) K = K (.inr (2, [u, v1, v2])) := rfl
theorem yg2_1 {v0 v1 v2 : Value} {K : Value → Option zA} : ygt 2 1 (some (.inr (2, [v0, v1, v2]))) K = K v1 := rfl
theorem yp2_1 {v0 v1 v2 u : Value} {K : zC → Option zA} : ypt 2 1 u (some (.inr (2, [v0, v1, v2]))) K = K (.inr (2, [v0, u, v2])) := rfl
theorem yg2_2 {v0 v1 v2 : Value} {K : Value → Option zA} : ygt 2 2 (some (.inr (2, [v0, v1, v2]))) K = K v2 := rfl
theorem yp2_2 {v0 v1 v2 u : Value} {K : zC → Option zA} : ypt 2 2 u (some (.inr (2, [v0, v1, v2]))) K = K (.inr (2, [v0, v1, u])) := rfl
theorem zw_o3 {b k : Nat} {σ : Nat → Nat → Int} {α lo : Nat → Int → Int} {φ : Nat → Int → UInt32} (hk : k < 180) (h : zlay k = (13, 0)) : zw b σ α lo φ (b + k) = some (.inr (3, [.ref (b + (k + 1)), .int (zI (σ k 1))])) := by
  rw [zw_at hk, zcell, h]
  rfl
theorem yg3_0 {v0 v1 : Value} {K : Value → Option zA} : ygt 3 0 (some (.inr (3, [v0, v1]))) K = K v0 := rfl
theorem yp3_0 {v0 v1 u : Value} {K : zC → Option zA} : ypt 3 0 u (some (.inr (3, [v0, v1]))) K = K (.inr (3, [u, v1])) := rfl
theorem yg3_1 {v0 v1 : Value} {K : Value → Option zA} : ygt 3 1 (some (.inr (3, [v0, v1]))) K = K v1 := rfl
theorem yp3_1 {v0 v1 u : Value} {K : zC → Option zA} : ypt 3 1 u (some (.inr (3, [v0, v1]))) K = K (.inr (3, [v0, u])) := rfl
theorem zp_o3_1 {b k : Nat} {v : Int} {σ : Nat → Nat → Int} {α lo : Nat → Int → Int} {φ : Nat → Int → UInt32} (hk : k < 180) (h : zlay k = (13, 0)) : zup (zw b σ α lo φ) (b + k) (some (.inr (3, [.ref (b + (k + 1)), .int (zI v)]))) = zw b (zus σ k 1 v) α lo φ :=
  zw_put hk (by
    rw [zcell, h]
    show _ = (Sum.inr (3, zflds b k (zus σ k 1 v) 3) : zC)
    simp [zflds, zus]) (fun j _ hj => zcell_same (zus_at hj) rfl rfl rfl)
theorem zw_o4 {b k : Nat} {σ : Nat → Nat → Int} {α lo : Nat → Int → Int} {φ : Nat → Int → UInt32} (hk : k < 180) (h : zlay k = (14, 0)) : zw b σ α lo φ (b + k) = some (.inr (4, [.ref (b + (k + 1))])) := by
  rw [zw_at hk, zcell, h]
  rfl
theorem yg4_0 {v0 : Value} {K : Value → Option zA} : ygt 4 0 (some (.inr (4, [v0]))) K = K v0 := rfl
theorem yp4_0 {v0 u : Value} {K : zC → Option zA} : ypt 4 0 u (some (.inr (4, [v0]))) K = K (.inr (4, [u])) := rfl
theorem zw_o5 {b k : Nat} {σ : Nat → Nat → Int} {α lo : Nat → Int → Int} {φ : Nat → Int → UInt32} (hk : k < 180) (h : zlay k = (15, 0)) : zw b σ α lo φ (b + k) = some (.inr (5, [.ref (b + (k + 1)), .ref (b + (k + 2)), .ref (b + (k + 3)), .ref (b + (k + 4)), .ref (b + (k + 5)), .int (zI (σ k 5))])) := by
  rw [zw_at hk, zcell, h]
  rfl
theorem yg5_0 {v0 v1 v2 v3 v4 v5 : Value} {K : Value → Option zA} : ygt 5 0 (some (.inr (5, [v0, v1, v2, v3, v4, v5]))) K = K v0 := rfl
theorem yp5_0 {v0 v1 v2 v3 v4 v5 u : Value} {K : zC → Option zA} : ypt 5 0 u (some (.inr (5, [v0, v1, v2, v3, v4, v5]))) K = K (.inr (5, [u, v1, v2, v3, v4, v5])) := rfl
theorem yg5_1 {v0 v1 v2 v3 v4 v5 : Value} {K : Value → Option zA} : ygt 5 1 (some (.inr (5, [v0, v1, v2, v3, v4, v5]))) K = K v1 := rfl
theorem yp5_1 {v0 v1 v2 v3 v4 v5 u : Value} {K : zC → Option zA} : ypt 5 1 u (some (.inr (5, [v0, v1, v2, v3, v4, v5]))) K = K (.inr (5, [v0, u, v2, v3, v4, v5])) := rfl
theorem yg5_2 {v0 v1 v2 v3 v4 v5 : Value} {K : Value → Option zA} : ygt 5 2 (some (.inr (5, [v0, v1, v2, v3, v4, v5]))) K = K v2 := rfl
theorem yp5_2 {v0 v1 v2 v3 v4 v5 u : Value} {K : zC → Option zA} : ypt 5 2 u (some (.inr (5, [v0, v1, v2, v3, v4, v5]))) K = K (.inr (5, [v0, v1, u, v3, v4, v5])) := rfl
theorem yg5_3 {v0 v1 v2 v3 v4 v5 : Value} {K : Value → Option zA} : ygt 5 3 (some (.inr (5, [v0, v1, v2, v3, v4, v5]))) K = K v3 := rfl
theorem yp5_3 {v0 v1 v2 v3 v4 v5 u : Value} {K : zC → Option zA} : ypt 5 3 u (some (.inr (5, [v0, v1, v2, v3, v4, v5]))) K = K (.inr (5, [v0, v1, v2, u, v4, v5])) := rfl
theorem yg5_4 {v0 v1 v2 v3 v4 v5 : Value} {K : Value → Option zA} : ygt 5 4 (some (.inr (5, [v0, v1, v2, v3, v4, v5]))) K = K v4 := rfl
theorem yp5_4 {v0 v1 v2 v3 v4 v5 u : Value} {K : zC → Option zA} : ypt 5 4 u (some (.inr (5, [v0, v1, v2, v3, v4, v5]))) K = K (.inr (5, [v0, v1, v2, v3, u, v5])) := rfl
theorem yg5_5 {v0 v1 v2 v3 v4 v5 : Value} {K : Value → Option zA} : ygt 5 5 (some (.inr (5, [v0, v1, v2, v3, v4, v5]))) K = K v5 := rfl
theorem yp5_5 {v0 v1 v2 v3 v4 v5 u : Value} {K : zC → Option zA} : ypt 5 5 u (some (.inr (5, [v0, v1, v2, v3, v4, v5]))) K = K (.inr (5, [v0, v1, v2, v3, v4, u])) := rfl
theorem zp_o5_5 {b k : Nat} {v : Int} {σ : Nat → Nat → Int} {α lo : Nat → Int → Int} {φ : Nat → Int → UInt32} (hk : k < 180) (h : zlay k = (15, 0)) : zup (zw b σ α lo φ) (b + k) (some (.inr (5, [.ref (b + (k + 1)), .ref (b + (k + 2)), .ref (b + (k + 3)), .ref (b + (k + 4)), .ref (b + (k + 5)), .int (zI v)]))) = zw b (zus σ k 5 v) α lo φ :=
  zw_put hk (by
    rw [zcell, h]
    show _ = (Sum.inr (5, zflds b k (zus σ k 5 v) 5) : zC)
    simp [zflds, zus]) (fun j _ hj => zcell_same (zus_at hj) rfl rfl rfl)
theorem zw_o6 {b k : Nat} {σ : Nat → Nat → Int} {α lo : Nat → Int → Int} {φ : Nat → Int → UInt32} (hk : k < 180) (h : zlay k = (16, 0)) : zw b σ α lo φ (b + k) = some (.inr (6, [.ref (b + (k + 1)), .ref (b + (k + 2)), .ref (b + (k + 3)), .ref (b + (k + 4)), .ref (b + (k + 5)), .int (zI (σ k 5))])) := by
  rw [zw_at hk, zcell, h]
  rfl
theorem yg6_0 {v0 v1 v2 v3 v4 v5 : Value} {K : Value → Option zA} : ygt 6 0 (some (.inr (6, [v0, v1, v2, v3, v4, v5]))) K = K v0 := rfl
theorem yp6_0 {v0 v1 v2 v3 v4 v5 u : Value} {K : zC → Option zA} : ypt 6 0 u (some (.inr (6, [v0, v1, v2, v3, v4, v5]))) K = K (.inr (6, [u, v1, v2, v3, v4, v5])) := rfl
theorem yg6_1 {v0 v1 v2 v3 v4 v5 : Value} {K : Value → Option zA} : ygt 6 1 (some (.inr (6, [v0, v1, v2, v3, v4, v5]))) K = K v1 := rfl
theorem yp6_1 {v0 v1 v2 v3 v4 v5 u : Value} {K : zC → Option zA} : ypt 6 1 u (some (.inr (6, [v0, v1, v2, v3, v4, v5]))) K = K (.inr (6, [v0, u, v2, v3, v4, v5])) := rfl
theorem yg6_2 {v0 v1 v2 v3 v4 v5 : Value} {K : Value → Option zA} : ygt 6 2 (some (.inr (6, [v0, v1, v2, v3, v4, v5]))) K = K v2 := rfl
theorem yp6_2 {v0 v1 v2 v3 v4 v5 u : Value} {K : zC → Option zA} : ypt 6 2 u (some (.inr (6, [v0, v1, v2, v3, v4, v5]))) K = K (.inr (6, [v0, v1, u, v3, v4, v5])) := rfl
theorem yg6_3 {v0 v1 v2 v3 v4 v5 : Value} {K : Value → Option zA} : ygt 6 3 (some (.inr (6, [v0, v1, v2, v3, v4, v5]))) K = K v3 := rfl
theorem yp6_3 {v0 v1 v2 v3 v4 v5 u : Value} {K : zC → Option zA} : ypt 6 3 u (some (.inr (6, [v0, v1, v2, v3, v4, v5]))) K = K (.inr (6, [v0, v1, v2, u, v4, v5])) := rfl
theorem yg6_4 {v0 v1 v2 v3 v4 v5 : Value} {K : Value → Option zA} : ygt 6 4 (some (.inr (6, [v0, v1, v2, v3, v4, v5]))) K = K v4 := rfl
theorem yp6_4 {v0 v1 v2 v3 v4 v5 u : Value} {K : zC → Option zA} : ypt 6 4 u (some (.inr (6, [v0, v1, v2, v3, v4, v5]))) K = K (.inr (6, [v0, v1, v2, v3, u, v5])) := rfl
theorem yg6_5 {v0 v1 v2 v3 v4 v5 : Value} {K : Value → Option zA} : ygt 6 5 (some (.inr (6, [v0, v1, v2, v3, v4, v5]))) K = K v5 := rfl
theorem yp6_5 {v0 v1 v2 v3 v4 v5 u : Value} {K : zC → Option zA} : ypt 6 5 u (some (.inr (6, [v0, v1, v2, v3, v4, v5]))) K = K (.inr (6, [v0, v1, v2, v3, v4, u])) := rfl
theorem zp_o6_5 {b k : Nat} {v : Int} {σ : Nat → Nat → Int} {α lo : Nat → Int → Int} {φ : Nat → Int → UInt32} (hk : k < 180) (h : zlay k = (16, 0)) : zup (zw b σ α lo φ) (b + k) (some (.inr (6, [.ref (b + (k + 1)), .ref (b + (k + 2)), .ref (b + (k + 3)), .ref (b + (k + 4)), .ref (b + (k + 5)), .int (zI v)]))) = zw b (zus σ k 5 v) α lo φ :=
  zw_put hk (by
    rw [zcell, h]
    show _ = (Sum.inr (6, zflds b k (zus σ k 5 v) 6) : zC)
    simp [zflds, zus]) (fun j _ hj => zcell_same (zus_at hj) rfl rfl rfl)
theorem zw_o7 {b k : Nat} {σ : Nat → Nat → Int} {α lo : Nat → Int → Int} {φ : Nat → Int → UInt32} (hk : k < 180) (h : zlay k = (17, 0)) : zw b σ α lo φ (b + k) = some (.inr (7, [.ref (b + (k + 1)), .ref (b + (k + 2)), .ref (b + (k + 3)), .ref (b + 129), .ref (b + 2), .int (zI (σ k 5)), .int (zI (σ k 6)), .int (zI (σ k 7))])) := by
  rw [zw_at hk, zcell, h]
  rfl
theorem yg7_0 {v0 v1 v2 v3 v4 v5 v6 v7 : Value} {K : Value → Option zA} : ygt 7 0 (some (.inr (7, [v0, v1, v2, v3, v4, v5, v6, v7]))) K = K v0 := rfl
theorem yp7_0 {v0 v1 v2 v3 v4 v5 v6 v7 u : Value} {K : zC → Option zA} : ypt 7 0 u (some (.inr (7, [v0, v1, v2, v3, v4, v5, v6, v7]))) K = K (.inr (7, [u, v1, v2, v3, v4, v5, v6, v7])) := rfl
theorem yg7_1 {v0 v1 v2 v3 v4 v5 v6 v7 : Value} {K : Value → Option zA} : ygt 7 1 (some (.inr (7, [v0, v1, v2, v3, v4, v5, v6, v7]))) K = K v1 := rfl
theorem yp7_1 {v0 v1 v2 v3 v4 v5 v6 v7 u : Value} {K : zC → Option zA} : ypt 7 1 u (some (.inr (7, [v0, v1, v2, v3, v4, v5, v6, v7]))) K = K (.inr (7, [v0, u, v2, v3, v4, v5, v6, v7])) := rfl
theorem yg7_2 {v0 v1 v2 v3 v4 v5 v6 v7 : Value} {K : Value → Option zA} : ygt 7 2 (some (.inr (7, [v0, v1, v2, v3, v4, v5, v6, v7]))) K = K v2 := rfl
theorem yp7_2 {v0 v1 v2 v3 v4 v5 v6 v7 u : Value} {K : zC → Option zA} : ypt 7 2 u (some (.inr (7, [v0, v1, v2, v3, v4, v5, v6, v7]))) K = K (.inr (7, [v0, v1, u, v3, v4, v5, v6, v7])) := rfl
theorem yg7_3 {v0 v1 v2 v3 v4 v5 v6 v7 : Value} {K : Value → Option zA} : ygt 7 3 (some (.inr (7, [v0, v1, v2, v3, v4, v5, v6, v7]))) K = K v3 := rfl
theorem yp7_3 {v0 v1 v2 v3 v4 v5 v6 v7 u : Value} {K : zC → Option zA} : ypt 7 3 u (some (.inr (7, [v0, v1, v2, v3, v4, v5, v6, v7]))) K = K (.inr (7, [v0, v1, v2, u, v4, v5, v6, v7])) := rfl
theorem yg7_4 {v0 v1 v2 v3 v4 v5 v6 v7 : Value} {K : Value → Option zA} : ygt 7 4 (some (.inr (7, [v0, v1, v2, v3, v4, v5, v6, v7]))) K = K v4 := rfl
theorem yp7_4 {v0 v1 v2 v3 v4 v5 v6 v7 u : Value} {K : zC → Option zA} : ypt 7 4 u (some (.inr (7, [v0, v1, v2, v3, v4, v5, v6, v7]))) K = K (.inr (7, [v0, v1, v2, v3, u, v5, v6, v7])) := rfl
theorem yg7_5 {v0 v1 v2 v3 v4 v5 v6 v7 : Value} {K : Value → Option zA} : ygt 7 5 (some (.inr (7, [v0, v1, v2, v3, v4, v5, v6, v7]))) K = K v5 := rfl
theorem yp7_5 {v0 v1 v2 v3 v4 v5 v6 v7 u : Value} {K : zC → Option zA} : ypt 7 5 u (some (.inr (7, [v0, v1, v2, v3, v4, v5, v6, v7]))) K = K (.inr (7, [v0, v1, v2, v3, v4, u, v6, v7])) := rfl
theorem yg7_6 {v0 v1 v2 v3 v4 v5 v6 v7 : Value} {K : Value → Option zA} : ygt 7 6 (some (.inr (7, [v0, v1, v2, v3, v4, v5, v6, v7]))) K = K v6 := rfl
theorem yp7_6 {v0 v1 v2 v3 v4 v5 v6 v7 u : Value} {K : zC → Option zA} : ypt 7 6 u (some (.inr (7, [v0, v1, v2, v3, v4, v5, v6, v7]))) K = K (.inr (7, [v0, v1, v2, v3, v4, v5, u, v7])) := rfl
theorem yg7_7 {v0 v1 v2 v3 v4 v5 v6 v7 : Value} {K : Value → Option zA} : ygt 7 7 (some (.inr (7, [v0, v1, v2, v3, v4, v5, v6, v7]))) K = K v7 := rfl
theorem yp7_7 {v0 v1 v2 v3 v4 v5 v6 v7 u : Value} {K : zC → Option zA} : ypt 7 7 u (some (.inr (7, [v0, v1, v2, v3, v4, v5, v6, v7]))) K = K (.inr (7, [v0, v1, v2, v3, v4, v5, v6, u])) := rfl
theorem zp_o7_5 {b k : Nat} {v : Int} {σ : Nat → Nat → Int} {α lo : Nat → Int → Int} {φ : Nat → Int → UInt32} (hk : k < 180) (h : zlay k = (17, 0)) : zup (zw b σ α lo φ) (b + k) (some (.inr (7, [.ref (b + (k + 1)), .ref (b + (k + 2)), .ref (b + (k + 3)), .ref (b + 129), .ref (b + 2), .int (zI v), .int (zI (σ k 6)), .int (zI (σ k 7))]))) = zw b (zus σ k 5 v) α lo φ :=
  zw_put hk (by
    rw [zcell, h]
    show _ = (Sum.inr (7, zflds b k (zus σ k 5 v) 7) : zC)
    simp [zflds, zus]) (fun j _ hj => zcell_same (zus_at hj) rfl rfl rfl)
theorem zp_o7_6 {b k : Nat} {v : Int} {σ : Nat → Nat → Int} {α lo : Nat → Int → Int} {φ : Nat → Int → UInt32} (hk : k < 180) (h : zlay k = (17, 0)) : zup (zw b σ α lo φ) (b + k) (some (.inr (7, [.ref (b + (k + 1)), .ref (b + (k + 2)), .ref (b + (k + 3)), .ref (b + 129), .ref (b + 2), .int (zI (σ k 5)), .int (zI v), .int (zI (σ k 7))]))) = zw b (zus σ k 6 v) α lo φ :=
  zw_put hk (by
    rw [zcell, h]
    show _ = (Sum.inr (7, zflds b k (zus σ k 6 v) 7) : zC)
    simp [zflds, zus]) (fun j _ hj => zcell_same (zus_at hj) rfl rfl rfl)
theorem zp_o7_7 {b k : Nat} {v : Int} {σ : Nat → Nat → Int} {α lo : Nat → Int → Int} {φ : Nat → Int → UInt32} (hk : k < 180) (h : zlay k = (17, 0)) : zup (zw b σ α lo φ) (b + k) (some (.inr (7, [.ref (b + (k + 1)), .ref (b + (k + 2)), .ref (b + (k + 3)), .ref (b + 129), .ref (b + 2), .int (zI (σ k 5)), .int (zI (σ k 6)), .int (zI v)]))) = zw b (zus σ k 7 v) α lo φ :=
  zw_put hk (by
    rw [zcell, h]
    show _ = (Sum.inr (7, zflds b k (zus σ k 7 v) 7) : zC)
    simp [zflds, zus]) (fun j _ hj => zcell_same (zus_at hj) rfl rfl rfl)
theorem zw_o8 {b k : Nat} {σ : Nat → Nat → Int} {α lo : Nat → Int → Int} {φ : Nat → Int → UInt32} (hk : k < 180) (h : zlay k = (18, 0)) : zw b σ α lo φ (b + k) = some (.inr (8, [.ref (b + (k + 1)), .int (zI (σ k 1)), .int (zI (σ k 2)), .int (zI (σ k 3))])) := by
  rw [zw_at hk, zcell, h]
  rfl
theorem yg8_0 {v0 v1 v2 v3 : Value} {K : Value → Option zA} : ygt 8 0 (some (.inr (8, [v0, v1, v2, v3]))) K = K v0 := rfl
theorem yp8_0 {v0 v1 v2 v3 u : Value} {K : zC → Option zA} : ypt 8 0 u (some (.inr (8, [v0, v1, v2, v3]))) K = K (.inr (8, [u, v1, v2, v3])) := rfl
theorem yg8_1 {v0 v1 v2 v3 : Value} {K : Value → Option zA} : ygt 8 1 (some (.inr (8, [v0, v1, v2, v3]))) K = K v1 := rfl
theorem yp8_1 {v0 v1 v2 v3 u : Value} {K : zC → Option zA} : ypt 8 1 u (some (.inr (8, [v0, v1, v2, v3]))) K = K (.inr (8, [v0, u, v2, v3])) := rfl
theorem yg8_2 {v0 v1 v2 v3 : Value} {K : Value → Option zA} : ygt 8 2 (some (.inr (8, [v0, v1, v2, v3]))) K = K v2 := rfl
theorem yp8_2 {v0 v1 v2 v3 u : Value} {K : zC → Option zA} : ypt 8 2 u (some (.inr (8, [v0, v1, v2, v3]))) K = K (.inr (8, [v0, v1, u, v3])) := rfl
theorem yg8_3 {v0 v1 v2 v3 : Value} {K : Value → Option zA} : ygt 8 3 (some (.inr (8, [v0, v1, v2, v3]))) K = K v3 := rfl
theorem yp8_3 {v0 v1 v2 v3 u : Value} {K : zC → Option zA} : ypt 8 3 u (some (.inr (8, [v0, v1, v2, v3]))) K = K (.inr (8, [v0, v1, v2, u])) := rfl
theorem zp_o8_1 {b k : Nat} {v : Int} {σ : Nat → Nat → Int} {α lo : Nat → Int → Int} {φ : Nat → Int → UInt32} (hk : k < 180) (h : zlay k = (18, 0)) : zup (zw b σ α lo φ) (b + k) (some (.inr (8, [.ref (b + (k + 1)), .int (zI v), .int (zI (σ k 2)), .int (zI (σ k 3))]))) = zw b (zus σ k 1 v) α lo φ :=
  zw_put hk (by
    rw [zcell, h]
    show _ = (Sum.inr (8, zflds b k (zus σ k 1 v) 8) : zC)
    simp [zflds, zus]) (fun j _ hj => zcell_same (zus_at hj) rfl rfl rfl)
theorem zp_o8_2 {b k : Nat} {v : Int} {σ : Nat → Nat → Int} {α lo : Nat → Int → Int} {φ : Nat → Int → UInt32} (hk : k < 180) (h : zlay k = (18, 0)) : zup (zw b σ α lo φ) (b + k) (some (.inr (8, [.ref (b + (k + 1)), .int (zI (σ k 1)), .int (zI v), .int (zI (σ k 3))]))) = zw b (zus σ k 2 v) α lo φ :=
  zw_put hk (by
    rw [zcell, h]
    show _ = (Sum.inr (8, zflds b k (zus σ k 2 v) 8) : zC)
    simp [zflds, zus]) (fun j _ hj => zcell_same (zus_at hj) rfl rfl rfl)
theorem zp_o8_3 {b k : Nat} {v : Int} {σ : Nat → Nat → Int} {α lo : Nat → Int → Int} {φ : Nat → Int → UInt32} (hk : k < 180) (h : zlay k = (18, 0)) : zup (zw b σ α lo φ) (b + k) (some (.inr (8, [.ref (b + (k + 1)), .int (zI (σ k 1)), .int (zI (σ k 2)), .int (zI v)]))) = zw b (zus σ k 3 v) α lo φ :=
  zw_put hk (by
    rw [zcell, h]
    show _ = (Sum.inr (8, zflds b k (zus σ k 3 v) 8) : zC)
    simp [zflds, zus]) (fun j _ hj => zcell_same (zus_at hj) rfl rfl rfl)
theorem zw_o9 {b k : Nat} {σ : Nat → Nat → Int} {α lo : Nat → Int → Int} {φ : Nat → Int → UInt32} (hk : k < 180) (h : zlay k = (19, 0)) : zw b σ α lo φ (b + k) = some (.inr (9, [.ref (b + (k + 1)), .ref (b + (k + 2)), .ref (b + (k + 3)), .ref (b + (k + 4)), .ref (b + (k + 5)), .int (zI (σ k 5))])) := by
  rw [zw_at hk, zcell, h]
  rfl
theorem yg9_0 {v0 v1 v2 v3 v4 v5 : Value} {K : Value → Option zA} : ygt 9 0 (some (.inr (9, [v0, v1, v2, v3, v4, v5]))) K = K v0 := rfl
theorem yp9_0 {v0 v1 v2 v3 v4 v5 u : Value} {K : zC → Option zA} : ypt 9 0 u (some (.inr (9, [v0, v1, v2, v3, v4, v5]))) K = K (.inr (9, [u, v1, v2, v3, v4, v5])) := rfl
theorem yg9_1 {v0 v1 v2 v3 v4 v5 : Value} {K : Value → Option zA} : ygt 9 1 (some (.inr (9, [v0, v1, v2, v3, v4, v5]))) K = K v1 := rfl
theorem yp9_1 {v0 v1 v2 v3 v4 v5 u : Value} {K : zC → Option zA} : ypt 9 1 u (some (.inr (9, [v0, v1, v2, v3, v4, v5]))) K = K (.inr (9, [v0, u, v2, v3, v4, v5])) := rfl
theorem yg9_2 {v0 v1 v2 v3 v4 v5 : Value} {K : Value → Option zA} : ygt 9 2 (some (.inr (9, [v0, v1, v2, v3, v4, v5]))) K = K v2 := rfl
theorem yp9_2 {v0 v1 v2 v3 v4 v5 u : Value} {K : zC → Option zA} : ypt 9 2 u (some (.inr (9, [v0, v1, v2, v3, v4, v5]))) K = K (.inr (9, [v0, v1, u, v3, v4, v5])) := rfl
theorem yg9_3 {v0 v1 v2 v3 v4 v5 : Value} {K : Value → Option zA} : ygt 9 3 (some (.inr (9, [v0, v1, v2, v3, v4, v5]))) K = K v3 := rfl
theorem yp9_3 {v0 v1 v2 v3 v4 v5 u : Value} {K : zC → Option zA} : ypt 9 3 u (some (.inr (9, [v0, v1, v2, v3, v4, v5]))) K = K (.inr (9, [v0, v1, v2, u, v4, v5])) := rfl
theorem yg9_4 {v0 v1 v2 v3 v4 v5 : Value} {K : Value → Option zA} : ygt 9 4 (some (.inr (9, [v0, v1, v2, v3, v4, v5]))) K = K v4 := rfl
theorem yp9_4 {v0 v1 v2 v3 v4 v5 u : Value} {K : zC → Option zA} : ypt 9 4 u (some (.inr (9, [v0, v1, v2, v3, v4, v5]))) K = K (.inr (9, [v0, v1, v2, v3, u, v5])) := rfl
theorem yg9_5 {v0 v1 v2 v3 v4 v5 : Value} {K : Value → Option zA} : ygt 9 5 (some (.inr (9, [v0, v1, v2, v3, v4, v5]))) K = K v5 := rfl
theorem yp9_5 {v0 v1 v2 v3 v4 v5 u : Value} {K : zC → Option zA} : ypt 9 5 u (some (.inr (9, [v0, v1, v2, v3, v4, v5]))) K = K (.inr (9, [v0, v1, v2, v3, v4, u])) := rfl
theorem zp_o9_5 {b k : Nat} {v : Int} {σ : Nat → Nat → Int} {α lo : Nat → Int → Int} {φ : Nat → Int → UInt32} (hk : k < 180) (h : zlay k = (19, 0)) : zup (zw b σ α lo φ) (b + k) (some (.inr (9, [.ref (b + (k + 1)), .ref (b + (k + 2)), .ref (b + (k + 3)), .ref (b + (k + 4)), .ref (b + (k + 5)), .int (zI v)]))) = zw b (zus σ k 5 v) α lo φ :=
  zw_put hk (by
    rw [zcell, h]
    show _ = (Sum.inr (9, zflds b k (zus σ k 5 v) 9) : zC)
    simp [zflds, zus]) (fun j _ hj => zcell_same (zus_at hj) rfl rfl rfl)
theorem zw_o10 {b k : Nat} {σ : Nat → Nat → Int} {α lo : Nat → Int → Int} {φ : Nat → Int → UInt32} (hk : k < 180) (h : zlay k = (20, 0)) : zw b σ α lo φ (b + k) = some (.inr (10, [.ref (b + (k + 1)), .int (zI (σ k 1))])) := by
  rw [zw_at hk, zcell, h]
  rfl
theorem yg10_0 {v0 v1 : Value} {K : Value → Option zA} : ygt 10 0 (some (.inr (10, [v0, v1]))) K = K v0 := rfl
theorem yp10_0 {v0 v1 u : Value} {K : zC → Option zA} : ypt 10 0 u (some (.inr (10, [v0, v1]))) K = K (.inr (10, [u, v1])) := rfl
theorem yg10_1 {v0 v1 : Value} {K : Value → Option zA} : ygt 10 1 (some (.inr (10, [v0, v1]))) K = K v1 := rfl
theorem yp10_1 {v0 v1 u : Value} {K : zC → Option zA} : ypt 10 1 u (some (.inr (10, [v0, v1]))) K = K (.inr (10, [v0, u])) := rfl
theorem zp_o10_1 {b k : Nat} {v : Int} {σ : Nat → Nat → Int} {α lo : Nat → Int → Int} {φ : Nat → Int → UInt32} (hk : k < 180) (h : zlay k = (20, 0)) : zup (zw b σ α lo φ) (b + k) (some (.inr (10, [.ref (b + (k + 1)), .int (zI v)]))) = zw b (zus σ k 1 v) α lo φ :=
  zw_put hk (by
    rw [zcell, h]
    show _ = (Sum.inr (10, zflds b k (zus σ k 1 v) 10) : zC)
    simp [zflds, zus]) (fun j _ hj => zcell_same (zus_at hj) rfl rfl rfl)
theorem zw_o11 {b k : Nat} {σ : Nat → Nat → Int} {α lo : Nat → Int → Int} {φ : Nat → Int → UInt32} (hk : k < 180) (h : zlay k = (21, 0)) : zw b σ α lo φ (b + k) = some (.inr (11, [.ref (b + 1), .ref (b + 65), .int (zI (σ k 2)), .ref (b + 129), .ref (b + 131), .ref (b + 133), .ref (b + 137), .ref (b + 143), .ref (b + 146), .ref (b + 151), .ref (b + 152)])) := by
  rw [zw_at hk, zcell, h]
  rfl
theorem yg11_0 {v0 v1 v2 v3 v4 v5 v6 v7 v8 v9 v10 : Value} {K : Value → Option zA} : ygt 11 0 (some (.inr (11, [v0, v1, v2, v3, v4, v5, v6, v7, v8, v9, v10]))) K = K v0 := rfl
theorem yp11_0 {v0 v1 v2 v3 v4 v5 v6 v7 v8 v9 v10 u : Value} {K : zC → Option zA} : ypt 11 0 u (some (.inr (11, [v0, v1, v2, v3, v4, v5, v6, v7, v8, v9, v10]))) K = K (.inr (11, [u, v1, v2, v3, v4, v5, v6, v7, v8, v9, v10])) := rfl
theorem yg11_1 {v0 v1 v2 v3 v4 v5 v6 v7 v8 v9 v10 : Value} {K : Value → Option zA} : ygt 11 1 (some (.inr (11, [v0, v1, v2, v3, v4, v5, v6, v7, v8, v9, v10]))) K = K v1 := rfl
theorem yp11_1 {v0 v1 v2 v3 v4 v5 v6 v7 v8 v9 v10 u : Value} {K : zC → Option zA} : ypt 11 1 u (some (.inr (11, [v0, v1, v2, v3, v4, v5, v6, v7, v8, v9, v10]))) K = K (.inr (11, [v0, u, v2, v3, v4, v5, v6, v7, v8, v9, v10])) := rfl
theorem yg11_2 {v0 v1 v2 v3 v4 v5 v6 v7 v8 v9 v10 : Value} {K : Value → Option zA} : ygt 11 2 (some (.inr (11, [v0, v1, v2, v3, v4, v5, v6, v7, v8, v9, v10]))) K = K v2 := rfl
theorem yp11_2 {v0 v1 v2 v3 v4 v5 v6 v7 v8 v9 v10 u : Value} {K : zC → Option zA} : ypt 11 2 u (some (.inr (11, [v0, v1, v2, v3, v4, v5, v6, v7, v8, v9, v10]))) K = K (.inr (11, [v0, v1, u, v3, v4, v5, v6, v7, v8, v9, v10])) := rfl
theorem yg11_3 {v0 v1 v2 v3 v4 v5 v6 v7 v8 v9 v10 : Value} {K : Value → Option zA} : ygt 11 3 (some (.inr (11, [v0, v1, v2, v3, v4, v5, v6, v7, v8, v9, v10]))) K = K v3 := rfl
theorem yp11_3 {v0 v1 v2 v3 v4 v5 v6 v7 v8 v9 v10 u : Value} {K : zC → Option zA} : ypt 11 3 u (some (.inr (11, [v0, v1, v2, v3, v4, v5, v6, v7, v8, v9, v10]))) K = K (.inr (11, [v0, v1, v2, u, v4, v5, v6, v7, v8, v9, v10])) := rfl
theorem yg11_4 {v0 v1 v2 v3 v4 v5 v6 v7 v8 v9 v10 : Value} {K : Value → Option zA} : ygt 11 4 (some (.inr (11, [v0, v1, v2, v3, v4, v5, v6, v7, v8, v9, v10]))) K = K v4 := rfl
theorem yp11_4 {v0 v1 v2 v3 v4 v5 v6 v7 v8 v9 v10 u : Value} {K : zC → Option zA} : ypt 11 4 u (some (.inr (11, [v0, v1, v2, v3, v4, v5, v6, v7, v8, v9, v10]))) K = K (.inr (11, [v0, v1, v2, v3, u, v5, v6, v7, v8, v9, v10])) := rfl
theorem yg11_5 {v0 v1 v2 v3 v4 v5 v6 v7 v8 v9 v10 : Value} {K : Value → Option zA} : ygt 11 5 (some (.inr (11, [v0, v1, v2, v3, v4, v5, v6, v7, v8, v9, v10]))) K = K v5 := rfl
theorem yp11_5 {v0 v1 v2 v3 v4 v5 v6 v7 v8 v9 v10 u : Value} {K : zC → Option zA} : ypt 11 5 u (some (.inr (11, [v0, v1, v2, v3, v4, v5, v6, v7, v8, v9, v10]))) K = K (.inr (11, [v0, v1, v2, v3, v4, u, v6, v7, v8, v9, v10])) := rfl
theorem yg11_6 {v0 v1 v2 v3 v4 v5 v6 v7 v8 v9 v10 : Value} {K : Value → Option zA} : ygt 11 6 (some (.inr (11, [v0, v1, v2, v3, v4, v5, v6, v7, v8, v9, v10]))) K = K v6 := rfl
theorem yp11_6 {v0 v1 v2 v3 v4 v5 v6 v7 v8 v9 v10 u : Value} {K : zC → Option zA} : ypt 11 6 u (some (.inr (11, [v0, v1, v2, v3, v4, v5, v6, v7, v8, v9, v10]))) K = K (.inr (11, [v0, v1, v2, v3, v4, v5, u, v7, v8, v9, v10])) := rfl
theorem yg11_7 {v0 v1 v2 v3 v4 v5 v6 v7 v8 v9 v10 : Value} {K : Value → Option zA} : ygt 11 7 (some (.inr (11, [v0, v1, v2, v3, v4, v5, v6, v7, v8, v9, v10]))) K = K v7 := rfl
theorem yp11_7 {v0 v1 v2 v3 v4 v5 v6 v7 v8 v9 v10 u : Value} {K : zC → Option zA} : ypt 11 7 u (some (.inr (11, [v0, v1, v2, v3, v4, v5, v6, v7, v8, v9, v10]))) K = K (.inr (11, [v0, v1, v2, v3, v4, v5, v6, u, v8, v9, v10])) := rfl
theorem yg11_8 {v0 v1 v2 v3 v4 v5 v6 v7 v8 v9 v10 : Value} {K : Value → Option zA} : ygt 11 8 (some (.inr (11, [v0, v1, v2, v3, v4, v5, v6, v7, v8, v9, v10]))) K = K v8 := rfl
theorem yp11_8 {v0 v1 v2 v3 v4 v5 v6 v7 v8 v9 v10 u : Value} {K : zC → Option zA} : ypt 11 8 u (some (.inr (11, [v0, v1, v2, v3, v4, v5, v6, v7, v8, v9, v10]))) K = K (.inr (11, [v0, v1, v2, v3, v4, v5, v6, v7, u, v9, v10])) := rfl
theorem yg11_9 {v0 v1 v2 v3 v4 v5 v6 v7 v8 v9 v10 : Value} {K : Value → Option zA} : ygt 11 9 (some (.inr (11, [v0, v1, v2, v3, v4, v5, v6, v7, v8, v9, v10]))) K = K v9 := rfl
theorem yp11_9 {v0 v1 v2 v3 v4 v5 v6 v7 v8 v9 v10 u : Value} {K : zC → Option zA} : ypt 11 9 u (some (.inr (11, [v0, v1, v2, v3, v4, v5, v6, v7, v8, v9, v10]))) K = K (.inr (11, [v0, v1, v2, v3, v4, v5, v6, v7, v8, u, v10])) := rfl
theorem yg11_10 {v0 v1 v2 v3 v4 v5 v6 v7 v8 v9 v10 : Value} {K : Value → Option zA} : ygt 11 10 (some (.inr (11, [v0, v1, v2, v3, v4, v5, v6, v7, v8, v9, v10]))) K = K v10 := rfl
theorem yp11_10 {v0 v1 v2 v3 v4 v5 v6 v7 v8 v9 v10 u : Value} {K : zC → Option zA} : ypt 11 10 u (some (.inr (11, [v0, v1, v2, v3, v4, v5, v6, v7, v8, v9, v10]))) K = K (.inr (11, [v0, v1, v2, v3, v4, v5, v6, v7, v8, v9, u])) := rfl
theorem zp_o11_2 {b k : Nat} {v : Int} {σ : Nat → Nat → Int} {α lo : Nat → Int → Int} {φ : Nat → Int → UInt32} (hk : k < 180) (h : zlay k = (21, 0)) : zup (zw b σ α lo φ) (b + k) (some (.inr (11, [.ref (b + 1), .ref (b + 65), .int (zI v), .ref (b + 129), .ref (b + 131), .ref (b + 133), .ref (b + 137), .ref (b + 143), .ref (b + 146), .ref (b + 151), .ref (b + 152)]))) = zw b (zus σ k 2 v) α lo φ :=
  zw_put hk (by
    rw [zcell, h]
    show _ = (Sum.inr (11, zflds b k (zus σ k 2 v) 11) : zC)
    simp [zflds, zus]) (fun j _ hj => zcell_same (zus_at hj) rfl rfl rfl)
theorem zw_o12 {b k : Nat} {σ : Nat → Nat → Int} {α lo : Nat → Int → Int} {φ : Nat → Int → UInt32} (hk : k < 180) (h : zlay k = (22, 0)) : zw b σ α lo φ (b + k) = some (.inr (12, [.ref (b + (k + 1)), .ref (b + (k + 2)), .int (zI (σ k 2)), .ref (b + (k + 3)), .ref (b + (k + 4)), .ref (b + (k + 5)), .ref (b + (k + 6)), .ref (b + (k + 7)), .ref (b + (k + 8)), .int (zI (σ k 9)), .int (zI (σ k 10)), .int (zI (σ k 11)), .int (zI (σ k 12)), .int (zI (σ k 13)), .int (zI (σ k 14)), .ref (b + (k + 9)), .ref (b + (k + 10)), .ref (b + (k + 11)), .ref (b + (k + 12)), .ref (b + (k + 13)), .ref (b + (k + 14))])) := by
  rw [zw_at hk, zcell, h]
  rfl
theorem yg12_0 {v0 v1 v2 v3 v4 v5 v6 v7 v8 v9 v10 v11 v12 v13 v14 v15 v16 v17 v18 v19 v20 : Value} {K : Value → Option zA} : ygt 12 0 (some (.inr (12, [v0, v1, v2, v3, v4, v5, v6, v7, v8, v9, v10, v11, v12, v13, v14, v15, v16, v17, v18, v19, v20]))) K = K v0 := rfl
theorem yp12_0 {v0 v1 v2 v3 v4 v5 v6 v7 v8 v9 v10 v11 v12 v13 v14 v15 v16 v17 v18 v19 v20 u : Value} {K : zC → Option zA} : ypt 12 0 u (some (.inr (12, [v0, v1, v2, v3, v4, v5, v6, v7, v8, v9, v10, v11, v12, v13, v14, v15, v16, v17, v18, v19, v20]))) K = K (.inr (12, [u, v1, v2, v3, v4, v5, v6, v7, v8, v9, v10, v11, v12, v13, v14, v15, v16, v17, v18, v19, v20])) := rfl
theorem yg12_1 {v0 v1 v2 v3 v4 v5 v6 v7 v8 v9 v10 v11 v12 v13 v14 v15 v16 v17 v18 v19 v20 : Value} {K : Value → Option zA} : ygt 12 1 (some (.inr (12, [v0, v1, v2, v3, v4, v5, v6, v7, v8, v9, v10, v11, v12, v13, v14, v15, v16, v17, v18, v19, v20]))) K = K v1 := rfl
theorem yp12_1 {v0 v1 v2 v3 v4 v5 v6 v7 v8 v9 v10 v11 v12 v13 v14 v15 v16 v17 v18 v19 v20 u : Value} {K : zC → Option zA} : ypt 12 1 u (some (.inr (12, [v0, v1, v2, v3, v4, v5, v6, v7, v8, v9, v10, v11, v12, v13, v14, v15, v16, v17, v18, v19, v20]))) K = K (.inr (12, [v0, u, v2, v3, v4, v5, v6, v7, v8, v9, v10, v11, v12, v13, v14, v15, v16, v17, v18, v19, v20])) := rfl
theorem yg12_2 {v0 v1 v2 v3 v4 v5 v6 v7 v8 v9 v10 v11 v12 v13 v14 v15 v16 v17 v18 v19 v20 : Value} {K : Value → Option zA} : ygt 12 2 (some (.inr (12, [v0, v1, v2, v3, v4, v5, v6, v7, v8, v9, v10, v11, v12, v13, v14, v15, v16, v17, v18, v19, v20]))) K = K v2 := rfl
theorem yp12_2 {v0 v1 v2 v3 v4 v5 v6 v7 v8 v9 v10 v11 v12 v13 v14 v15 v16 v17 v18 v19 v20 u : Value} {K : zC → Option zA} : ypt 12 2 u (some (.inr (12, [v0, v1, v2, v3, v4, v5, v6, v7, v8, v9, v10, v11, v12, v13, v14, v15, v16, v17, v18, v19, v20]))) K = K (.inr (12, [v0, v1, u, v3, v4, v5, v6, v7, v8, v9, v10, v11, v12, v13, v14, v15, v16, v17, v18, v19, v20])) := rfl
theorem yg12_3 {v0 v1 v2 v3 v4 v5 v6 v7 v8 v9 v10 v11 v12 v13 v14 v15 v16 v17 v18 v19 v20 : Value} {K : Value → Option zA} : ygt 12 3 (some (.inr (12, [v0, v1, v2, v3, v4, v5, v6, v7, v8, v9, v10, v11, v12, v13, v14, v15, v16, v17, v18, v19, v20]))) K = K v3 := rfl
theorem yp12_3 {v0 v1 v2 v3 v4 v5 v6 v7 v8 v9 v10 v11 v12 v13 v14 v15 v16 v17 v18 v19 v20 u : Value} {K : zC → Option zA} : ypt 12 3 u (some (.inr (12, [v0, v1, v2, v3, v4, v5, v6, v7, v8, v9, v10, v11, v12, v13, v14, v15, v16, v17, v18, v19, v20]))) K = K (.inr (12, [v0, v1, v2, u, v4, v5, v6, v7, v8, v9, v10, v11, v12, v13, v14, v15, v16, v17, v18, v19, v20])) := rfl
theorem yg12_4 {v0 v1 v2 v3 v4 v5 v6 v7 v8 v9 v10 v11 v12 v13 v14 v15 v16 v17 v18 v19 v20 : Value} {K : Value → Option zA} : ygt 12 4 (some (.inr (12, [v0, v1, v2, v3, v4, v5, v6, v7, v8, v9, v10, v11, v12, v13, v14, v15, v16, v17, v18, v19, v20]))) K = K v4 := rfl
theorem yp12_4 {v0 v1 v2 v3 v4 v5 v6 v7 v8 v9 v10 v11 v12 v13 v14 v15 v16 v17 v18 v19 v20 u : Value} {K : zC → Option zA} : ypt 12 4 u (some (.inr (12, [v0, v1, v2, v3, v4, v5, v6, v7, v8, v9, v10, v11, v12, v13, v14, v15, v16, v17, v18, v19, v20]))) K = K (.inr (12, [v0, v1, v2, v3, u, v5, v6, v7, v8, v9, v10, v11, v12, v13, v14, v15, v16, v17, v18, v19, v20])) := rfl
theorem yg12_5 {v0 v1 v2 v3 v4 v5 v6 v7 v8 v9 v10 v11 v12 v13 v14 v15 v16 v17 v18 v19 v20 : Value} {K : Value → Option zA} : ygt 12 5 (some (.inr (12, [v0, v1, v2, v3, v4, v5, v6, v7, v8, v9, v10, v11, v12, v13, v14, v15, v16, v17, v18, v19, v20]))) K = K v5 := rfl
theorem yp12_5 {v0 v1 v2 v3 v4 v5 v6 v7 v8 v9 v10 v11 v12 v13 v14 v15 v16 v17 v18 v19 v20 u : Value} {K : zC → Option zA} : ypt 12 5 u (some (.inr (12, [v0, v1, v2, v3, v4, v5, v6, v7, v8, v9, v10, v11, v12, v13, v14, v15, v16, v17, v18, v19, v20]))) K = K (.inr (12, [v0, v1, v2, v3, v4, u, v6, v7, v8, v9, v10, v11, v12, v13, v14, v15, v16, v17, v18, v19, v20])) := rfl
theorem yg12_6 {v0 v1 v2 v3 v4 v5 v6 v7 v8 v9 v10 v11 v12 v13 v14 v15 v16 v17 v18 v19 v20 : Value} {K : Value → Option zA} : ygt 12 6 (some (.inr (12, [v0, v1, v2, v3, v4, v5, v6, v7, v8, v9, v10, v11, v12, v13, v14, v15, v16, v17, v18, v19, v20]))) K = K v6 := rfl
theorem yp12_6 {v0 v1 v2 v3 v4 v5 v6 v7 v8 v9 v10 v11 v12 v13 v14 v15 v16 v17 v18 v19 v20 u : Value} {K : zC → Option zA} : ypt 12 6 u (some (.inr (12, [v0, v1, v2, v3, v4, v5, v6, v7, v8, v9, v10, v11, v12, v13, v14, v15, v16, v17, v18, v19, v20]))) K = K (.inr (12, [v0, v1, v2, v3, v4, v5, u, v7, v8, v9, v10, v11, v12, v13, v14, v15, v16, v17, v18, v19, v20])) := rfl
theorem yg12_7 {v0 v1 v2 v3 v4 v5 v6 v7 v8 v9 v10 v11 v12 v13 v14 v15 v16 v17 v18 v19 v20 : Value} {K : Value → Option zA} : ygt 12 7 (some (.inr (12, [v0, v1, v2, v3, v4, v5, v6, v7, v8, v9, v10, v11, v12, v13, v14, v15, v16, v17, v18, v19, v20]))) K = K v7 := rfl
theorem yp12_7 {v0 v1 v2 v3 v4 v5 v6 v7 v8 v9 v10 v11 v12 v13 v14 v15 v16 v17 v18 v19 v20 u : Value} {K : zC → Option zA} : ypt 12 7 u (some (.inr (12, [v0, v1, v2, v3, v4, v5, v6, v7, v8, v9, v10, v11, v12, v13, v14, v15, v16, v17, v18, v19, v20]))) K = K (.inr (12, [v0, v1, v2, v3, v4, v5, v6, u, v8, v9, v10, v11, v12, v13, v14, v15, v16, v17, v18, v19, v20])) := rfl
theorem yg12_8 {v0 v1 v2 v3 v4 v5 v6 v7 v8 v9 v10 v11 v12 v13 v14 v15 v16 v17 v18 v19 v20 : Value} {K : Value → Option zA} : ygt 12 8 (some (.inr (12, [v0, v1, v2, v3, v4, v5, v6, v7, v8, v9, v10, v11, v12, v13, v14, v15, v16, v17, v18, v19, v20]))) K = K v8 := rfl
theorem yp12_8 {v0 v1 v2 v3 v4 v5 v6 v7 v8 v9 v10 v11 v12 v13 v14 v15 v16 v17 v18 v19 v20 u : Value} {K : zC → Option zA} : ypt 12 8 u (some (.inr (12, [v0, v1, v2, v3, v4, v5, v6, v7, v8, v9, v10, v11, v12, v13, v14, v15, v16, v17, v18, v19, v20]))) K = K (.inr (12, [v0, v1, v2, v3, v4, v5, v6, v7, u, v9, v10, v11, v12, v13, v14, v15, v16, v17, v18, v19, v20])) := rfl
theorem yg12_9 {v0 v1 v2 v3 v4 v5 v6 v7 v8 v9 v10 v11 v12 v13 v14 v15 v16 v17 v18 v19 v20 : Value} {K : Value → Option zA} : ygt 12 9 (some (.inr (12, [v0, v1, v2, v3, v4, v5, v6, v7, v8, v9, v10, v11, v12, v13, v14, v15, v16, v17, v18, v19, v20]))) K = K v9 := rfl
theorem yp12_9 {v0 v1 v2 v3 v4 v5 v6 v7 v8 v9 v10 v11 v12 v13 v14 v15 v16 v17 v18 v19 v20 u : Value} {K : zC → Option zA} : ypt 12 9 u (some (.inr (12, [v0, v1, v2, v3, v4, v5, v6, v7, v8, v9, v10, v11, v12, v13, v14, v15, v16, v17, v18, v19, v20]))) K = K (.inr (12, [v0, v1, v2, v3, v4, v5, v6, v7, v8, u, v10, v11, v12, v13, v14, v15, v16, v17, v18, v19, v20])) := rfl
theorem yg12_10 {v0 v1 v2 v3 v4 v5 v6 v7 v8 v9 v10 v11 v12 v13 v14 v15 v16 v17 v18 v19 v20 : Value} {K : Value → Option zA} : ygt 12 10 (some (.inr (12, [v0, v1, v2, v3, v4, v5, v6, v7, v8, v9, v10, v11, v12, v13, v14, v15, v16, v17, v18, v19, v20]))) K = K v10 := rfl
theorem yp12_10 {v0 v1 v2 v3 v4 v5 v6 v7 v8 v9 v10 v11 v12 v13 v14 v15 v16 v17 v18 v19 v20 u : Value} {K : zC → Option zA} : ypt 12 10 u (some (.inr (12, [v0, v1, v2, v3, v4, v5, v6, v7, v8, v9, v10, v11, v12, v13, v14, v15, v16, v17, v18, v19, v20]))) K = K (.inr (12, [v0, v1, v2, v3, v4, v5, v6, v7, v8, v9, u, v11, v12, v13, v14, v15, v16, v17, v18, v19, v20])) := rfl
theorem yg12_11 {v0 v1 v2 v3 v4 v5 v6 v7 v8 v9 v10 v11 v12 v13 v14 v15 v16 v17 v18 v19 v20 : Value} {K : Value → Option zA} : ygt 12 11 (some (.inr (12, [v0, v1, v2, v3, v4, v5, v6, v7, v8, v9, v10, v11, v12, v13, v14, v15, v16, v17, v18, v19, v20]))) K = K v11 := rfl
theorem yp12_11 {v0 v1 v2 v3 v4 v5 v6 v7 v8 v9 v10 v11 v12 v13 v14 v15 v16 v17 v18 v19 v20 u : Value} {K : zC → Option zA} : ypt 12 11 u (some (.inr (12, [v0, v1, v2, v3, v4, v5, v6, v7, v8, v9, v10, v11, v12, v13, v14, v15, v16, v17, v18, v19, v20]))) K = K (.inr (12, [v0, v1, v2, v3, v4, v5, v6, v7, v8, v9, v10, u, v12, v13, v14, v15, v16, v17, v18, v19, v20])) := rfl
theorem yg12_12 {v0 v1 v2 v3 v4 v5 v6 v7 v8 v9 v10 v11 v12 v13 v14 v15 v16 v17 v18 v19 v20 : Value} {K : Value → Option zA} : ygt 12 12 (some (.inr (12, [v0, v1, v2, v3, v4, v5, v6, v7, v8, v9, v10, v11, v12, v13, v14, v15, v16, v17, v18, v19, v20]))) K = K v12 := rfl
theorem yp12_12 {v0 v1 v2 v3 v4 v5 v6 v7 v8 v9 v10 v11 v12 v13 v14 v15 v16 v17 v18 v19 v20 u : Value} {K : zC → Option zA} : ypt 12 12 u (some (.inr (12, [v0, v1, v2, v3, v4, v5, v6, v7, v8, v9, v10, v11, v12, v13, v14, v15, v16, v17, v18, v19, v20]))) K = K (.inr (12, [v0, v1, v2, v3, v4, v5, v6, v7, v8, v9, v10, v11, u, v13, v14, v15, v16, v17, v18, v19, v20])) := rfl
theorem yg12_13 {v0 v1 v2 v3 v4 v5 v6 v7 v8 v9 v10 v11 v12 v13 v14 v15 v16 v17 v18 v19 v20 : Value} {K : Value → Option zA} : ygt 12 13 (some (.inr (12, [v0, v1, v2, v3, v4, v5, v6, v7, v8, v9, v10, v11, v12, v13, v14, v15, v16, v17, v18, v19, v20]))) K = K v13 := rfl
theorem yp12_13 {v0 v1 v2 v3 v4 v5 v6 v7 v8 v9 v10 v11 v12 v13 v14 v15 v16 v17 v18 v19 v20 u : Value} {K : zC → Option zA} : ypt 12 13 u (some (.inr (12, [v0, v1, v2, v3, v4, v5, v6, v7, v8, v9, v10, v11, v12, v13, v14, v15, v16, v17, v18, v19, v20]))) K = K (.inr (12, [v0, v1, v2, v3, v4, v5, v6, v7, v8, v9, v10, v11, v12, u, v14, v15, v16, v17, v18, v19, v20])) := rfl
theorem yg12_14 {v0 v1 v2 v3 v4 v5 v6 v7 v8 v9 v10 v11 v12 v13 v14 v15 v16 v17 v18 v19 v20 : Value} {K : Value → Option zA} : ygt 12 14 (some (.inr (12, [v0, v1, v2, v3, v4, v5, v6, v7, v8, v9, v10, v11, v12, v13, v14, v15, v16, v17, v18, v19, v20]))) K = K v14 := rfl
theorem yp12_14 {v0 v1 v2 v3 v4 v5 v6 v7 v8 v9 v10 v11 v12 v13 v14 v15 v16 v17 v18 v19 v20 u : Value} {K : zC → Option zA} : ypt 12 14 u (some (.inr (12, [v0, v1, v2, v3, v4, v5, v6, v7, v8, v9, v10, v11, v12, v13, v14, v15, v16, v17, v18, v19, v20]))) K = K (.inr (12, [v0, v1, v2, v3, v4, v5, v6, v7, v8, v9, v10, v11, v12, v13, u, v15, v16, v17, v18, v19, v20])) := rfl
theorem yg12_15 {v0 v1 v2 v3 v4 v5 v6 v7 v8 v9 v10 v11 v12 v13 v14 v15 v16 v17 v18 v19 v20 : Value} {K : Value → Option zA} : ygt 12 15 (some (.inr (12, [v0, v1, v2, v3, v4, v5, v6, v7, v8, v9, v10, v11, v12, v13, v14, v15, v16, v17, v18, v19, v20]))) K = K v15 := rfl
theorem yp12_15 {v0 v1 v2 v3 v4 v5 v6 v7 v8 v9 v10 v11 v12 v13 v14 v15 v16 v17 v18 v19 v20 u : Value} {K : zC → Option zA} : ypt 12 15 u (some (.inr (12, [v0, v1, v2, v3, v4, v5, v6, v7, v8, v9, v10, v11, v12, v13, v14, v15, v16, v17, v18, v19, v20]))) K = K (.inr (12, [v0, v1, v2, v3, v4, v5, v6, v7, v8, v9, v10, v11, v12, v13, v14, u, v16, v17, v18, v19, v20])) := rfl
theorem yg12_16 {v0 v1 v2 v3 v4 v5 v6 v7 v8 v9 v10 v11 v12 v13 v14 v15 v16 v17 v18 v19 v20 : Value} {K : Value → Option zA} : ygt 12 16 (some (.inr (12, [v0, v1, v2, v3, v4, v5, v6, v7, v8, v9, v10, v11, v12, v13, v14, v15, v16, v17, v18, v19, v20]))) K = K v16 := rfl
theorem yp12_16 {v0 v1 v2 v3 v4 v5 v6 v7 v8 v9 v10 v11 v12 v13 v14 v15 v16 v17 v18 v19 v20 u : Value} {K : zC → Option zA} : ypt 12 16 u (some (.inr (12, [v0, v1, v2, v3, v4, v5, v6, v7, v8, v9, v10, v11, v12, v13, v14, v15, v16, v17, v18, v19, v20]))) K = K (.inr (12, [v0, v1, v2, v3, v4, v5, v6, v7, v8, v9, v10, v11, v12, v13, v14, v15, u, v17, v18, v19, v20])) := rfl
theorem yg12_17 {v0 v1 v2 v3 v4 v5 v6 v7 v8 v9 v10 v11 v12 v13 v14 v15 v16 v17 v18 v19 v20 : Value} {K : Value → Option zA} : ygt 12 17 (some (.inr (12, [v0, v1, v2, v3, v4, v5, v6, v7, v8, v9, v10, v11, v12, v13, v14, v15, v16, v17, v18, v19, v20]))) K = K v17 := rfl
theorem yp12_17 {v0 v1 v2 v3 v4 v5 v6 v7 v8 v9 v10 v11 v12 v13 v14 v15 v16 v17 v18 v19 v20 u : Value} {K : zC → Option zA} : ypt 12 17 u (some (.inr (12, [v0, v1, v2, v3, v4, v5, v6, v7, v8, v9, v10, v11, v12, v13, v14, v15, v16, v17, v18, v19, v20]))) K = K (.inr (12, [v0, v1, v2, v3, v4, v5, v6, v7, v8, v9, v10, v11, v12, v13, v14, v15, v16, u, v18, v19, v20])) := rfl
theorem yg12_18 {v0 v1 v2 v3 v4 v5 v6 v7 v8 v9 v10 v11 v12 v13 v14 v15 v16 v17 v18 v19 v20 : Value} {K : Value → Option zA} : ygt 12 18 (some (.inr (12, [v0, v1, v2, v3, v4, v5, v6, v7, v8, v9, v10, v11, v12, v13, v14, v15, v16, v17, v18, v19, v20]))) K = K v18 := rfl
theorem yp12_18 {v0 v1 v2 v3 v4 v5 v6 v7 v8 v9 v10 v11 v12 v13 v14 v15 v16 v17 v18 v19 v20 u : Value} {K : zC → Option zA} : ypt 12 18 u (some (.inr (12, [v0, v1, v2, v3, v4, v5, v6, v7, v8, v9, v10, v11, v12, v13, v14, v15, v16, v17, v18, v19, v20]))) K = K (.inr (12, [v0, v1, v2, v3, v4, v5, v6, v7, v8, v9, v10, v11, v12, v13, v14, v15, v16, v17, u, v19, v20])) := rfl
theorem yg12_19 {v0 v1 v2 v3 v4 v5 v6 v7 v8 v9 v10 v11 v12 v13 v14 v15 v16 v17 v18 v19 v20 : Value} {K : Value → Option zA} : ygt 12 19 (some (.inr (12, [v0, v1, v2, v3, v4, v5, v6, v7, v8, v9, v10, v11, v12, v13, v14, v15, v16, v17, v18, v19, v20]))) K = K v19 := rfl
theorem yp12_19 {v0 v1 v2 v3 v4 v5 v6 v7 v8 v9 v10 v11 v12 v13 v14 v15 v16 v17 v18 v19 v20 u : Value} {K : zC → Option zA} : ypt 12 19 u (some (.inr (12, [v0, v1, v2, v3, v4, v5, v6, v7, v8, v9, v10, v11, v12, v13, v14, v15, v16, v17, v18, v19, v20]))) K = K (.inr (12, [v0, v1, v2, v3, v4, v5, v6, v7, v8, v9, v10, v11, v12, v13, v14, v15, v16, v17, v18, u, v20])) := rfl
theorem yg12_20 {v0 v1 v2 v3 v4 v5 v6 v7 v8 v9 v10 v11 v12 v13 v14 v15 v16 v17 v18 v19 v20 : Value} {K : Value → Option zA} : ygt 12 20 (some (.inr (12, [v0, v1, v2, v3, v4, v5, v6, v7, v8, v9, v10, v11, v12, v13, v14, v15, v16, v17, v18, v19, v20]))) K = K v20 := rfl
theorem yp12_20 {v0 v1 v2 v3 v4 v5 v6 v7 v8 v9 v10 v11 v12 v13 v14 v15 v16 v17 v18 v19 v20 u : Value} {K : zC → Option zA} : ypt 12 20 u (some (.inr (12, [v0, v1, v2, v3, v4, v5, v6, v7, v8, v9, v10, v11, v12, v13, v14, v15, v16, v17, v18, v19, v20]))) K = K (.inr (12, [v0, v1, v2, v3, v4, v5, v6, v7, v8, v9, v10, v11, v12, v13, v14, v15, v16, v17, v18, v19, u])) := rfl
theorem zp_o12_2 {b k : Nat} {v : Int} {σ : Nat → Nat → Int} {α lo : Nat → Int → Int} {φ : Nat → Int → UInt32} (hk : k < 180) (h : zlay k = (22, 0)) : zup (zw b σ α lo φ) (b + k) (some (.inr (12, [.ref (b + (k + 1)), .ref (b + (k + 2)), .int (zI v), .ref (b + (k + 3)), .ref (b + (k + 4)), .ref (b + (k + 5)), .ref (b + (k + 6)), .ref (b + (k + 7)), .ref (b + (k + 8)), .int (zI (σ k 9)), .int (zI (σ k 10)), .int (zI (σ k 11)), .int (zI (σ k 12)), .int (zI (σ k 13)), .int (zI (σ k 14)), .ref (b + (k + 9)), .ref (b + (k + 10)), .ref (b + (k + 11)), .ref (b + (k + 12)), .ref (b + (k + 13)), .ref (b + (k + 14))]))) = zw b (zus σ k 2 v) α lo φ :=
  zw_put hk (by
    rw [zcell, h]
    show _ = (Sum.inr (12, zflds b k (zus σ k 2 v) 12) : zC)
    simp [zflds, zus]) (fun j _ hj => zcell_same (zus_at hj) rfl rfl rfl)
theorem zp_o12_9 {b k : Nat} {v : Int} {σ : Nat → Nat → Int} {α lo : Nat → Int → Int} {φ : Nat → Int → UInt32} (hk : k < 180) (h : zlay k = (22, 0)) : zup (zw b σ α lo φ) (b + k) (some (.inr (12, [.ref (b + (k + 1)), .ref (b + (k + 2)), .int (zI (σ k 2)), .ref (b + (k + 3)), .ref (b + (k + 4)), .ref (b + (k + 5)), .ref (b + (k + 6)), .ref (b + (k + 7)), .ref (b + (k + 8)), .int (zI v), .int (zI (σ k 10)), .int (zI (σ k 11)), .int (zI (σ k 12)), .int (zI (σ k 13)), .int (zI (σ k 14)), .ref (b + (k + 9)), .ref (b + (k + 10)), .ref (b + (k + 11)), .ref (b + (k + 12)), .ref (b + (k + 13)), .ref (b + (k + 14))]))) = zw b (zus σ k 9 v) α lo φ :=
  zw_put hk (by
    rw [zcell, h]
    show _ = (Sum.inr (12, zflds b k (zus σ k 9 v) 12) : zC)
    simp [zflds, zus]) (fun j _ hj => zcell_same (zus_at hj) rfl rfl rfl)
theorem zp_o12_10 {b k : Nat} {v : Int} {σ : Nat → Nat → Int} {α lo : Nat → Int → Int} {φ : Nat → Int → UInt32} (hk : k < 180) (h : zlay k = (22, 0)) : zup (zw b σ α lo φ) (b + k) (some (.inr (12, [.ref (b + (k + 1)), .ref (b + (k + 2)), .int (zI (σ k 2)), .ref (b + (k + 3)), .ref (b + (k + 4)), .ref (b + (k + 5)), .ref (b + (k + 6)), .ref (b + (k + 7)), .ref (b + (k + 8)), .int (zI (σ k 9)), .int (zI v), .int (zI (σ k 11)), .int (zI (σ k 12)), .int (zI (σ k 13)), .int (zI (σ k 14)), .ref (b + (k + 9)), .ref (b + (k + 10)), .ref (b + (k + 11)), .ref (b + (k + 12)), .ref (b + (k + 13)), .ref (b + (k + 14))]))) = zw b (zus σ k 10 v) α lo φ :=
  zw_put hk (by
    rw [zcell, h]
    show _ = (Sum.inr (12, zflds b k (zus σ k 10 v) 12) : zC)
    simp [zflds, zus]) (fun j _ hj => zcell_same (zus_at hj) rfl rfl rfl)
theorem zp_o12_11 {b k : Nat} {v : Int} {σ : Nat → Nat → Int} {α lo : Nat → Int → Int} {φ : Nat → Int → UInt32} (hk : k < 180) (h : zlay k = (22, 0)) : zup (zw b σ α lo φ) (b + k) (some (.inr (12, [.ref (b + (k + 1)), .ref (b + (k + 2)), .int (zI (σ k 2)), .ref (b + (k + 3)), .ref (b + (k + 4)), .ref (b + (k + 5)), .ref (b + (k + 6)), .ref (b + (k + 7)), .ref (b + (k + 8)), .int (zI (σ k 9)), .int (zI (σ k 10)), .int (zI v), .int (zI (σ k 12)), .int (zI (σ k 13)), .int (zI (σ k 14)), .ref (b + (k + 9)), .ref (b + (k + 10)), .ref (b + (k + 11)), .ref (b + (k + 12)), .ref (b + (k + 13)), .ref (b + (k + 14))]))) = zw b (zus σ k 11 v) α lo φ :=
  zw_put hk (by
    rw [zcell, h]
    show _ = (Sum.inr (12, zflds b k (zus σ k 11 v) 12) : zC)
    simp [zflds, zus]) (fun j _ hj => zcell_same (zus_at hj) rfl rfl rfl)
theorem zp_o12_12 {b k : Nat} {v : Int} {σ : Nat → Nat → Int} {α lo : Nat → Int → Int} {φ : Nat → Int → UInt32} (hk : k < 180) (h : zlay k = (22, 0)) : zup (zw b σ α lo φ) (b + k) (some (.inr (12, [.ref (b + (k + 1)), .ref (b + (k + 2)), .int (zI (σ k 2)), .ref (b + (k + 3)), .ref (b + (k + 4)), .ref (b + (k + 5)), .ref (b + (k + 6)), .ref (b + (k + 7)), .ref (b + (k + 8)), .int (zI (σ k 9)), .int (zI (σ k 10)), .int (zI (σ k 11)), .int (zI v), .int (zI (σ k 13)), .int (zI (σ k 14)), .ref (b + (k + 9)), .ref (b + (k + 10)), .ref (b + (k + 11)), .ref (b + (k + 12)), .ref (b + (k + 13)), .ref (b + (k + 14))]))) = zw b (zus σ k 12 v) α lo φ :=
  zw_put hk (by
    rw [zcell, h]
    show _ = (Sum.inr (12, zflds b k (zus σ k 12 v) 12) : zC)
    simp [zflds, zus]) (fun j _ hj => zcell_same (zus_at hj) rfl rfl rfl)
theorem zp_o12_13 {b k : Nat} {v : Int} {σ : Nat → Nat → Int} {α lo : Nat → Int → Int} {φ : Nat → Int → UInt32} (hk : k < 180) (h : zlay k = (22, 0)) : zup (zw b σ α lo φ) (b + k) (some (.inr (12, [.ref (b + (k + 1)), .ref (b + (k + 2)), .int (zI (σ k 2)), .ref (b + (k + 3)), .ref (b + (k + 4)), .ref (b + (k + 5)), .ref (b + (k + 6)), .ref (b + (k + 7)), .ref (b + (k + 8)), .int (zI (σ k 9)), .int (zI (σ k 10)), .int (zI (σ k 11)), .int (zI (σ k 12)), .int (zI v), .int (zI (σ k 14)), .ref (b + (k + 9)), .ref (b + (k + 10)), .ref (b + (k + 11)), .ref (b + (k + 12)), .ref (b + (k + 13)), .ref (b + (k + 14))]))) = zw b (zus σ k 13 v) α lo φ :=
  zw_put hk (by
    rw [zcell, h]
    show _ = (Sum.inr (12, zflds b k (zus σ k 13 v) 12) : zC)
    simp [zflds, zus]) (fun j _ hj => zcell_same (zus_at hj) rfl rfl rfl)
theorem zp_o12_14 {b k : Nat} {v : Int} {σ : Nat → Nat → Int} {α lo : Nat → Int → Int} {φ : Nat → Int → UInt32} (hk : k < 180) (h : zlay k = (22, 0)) : zup (zw b σ α lo φ) (b + k) (some (.inr (12, [.ref (b + (k + 1)), .ref (b + (k + 2)), .int (zI (σ k 2)), .ref (b + (k + 3)), .ref (b + (k + 4)), .ref (b + (k + 5)), .ref (b + (k + 6)), .ref (b + (k + 7)), .ref (b + (k + 8)), .int (zI (σ k 9)), .int (zI (σ k 10)), .int (zI (σ k 11)), .int (zI (σ k 12)), .int (zI (σ k 13)), .int (zI v), .ref (b + (k + 9)), .ref (b + (k + 10)), .ref (b + (k + 11)), .ref (b + (k + 12)), .ref (b + (k + 13)), .ref (b + (k + 14))]))) = zw b (zus σ k 14 v) α lo φ :=
  zw_put hk (by
    rw [zcell, h]
    show _ = (Sum.inr (12, zflds b k (zus σ k 14 v) 12) : zC)
    simp [zflds, zus]) (fun j _ hj => zcell_same (zus_at hj) rfl rfl rfl)
theorem ycl_eq {ci : Nat} {fs : List Value} {r : Option zA} : ycl ci (some (.inr (ci, fs))) r = r := if_pos rfl
/-! numbers -/
abbrev zr (k : Int) : Prop := -2147483648 ≤ k ∧ k < 2147483648
theorem zI_add (a b : Int) : zI a + zI b = zI (a + b) := by
  unfold zI
  rw [Int32.ofInt_add]
theorem zI_sub (a b : Int) : zI a - zI b = zI (a - b) := by
  unfold zI
  rw [Int32.ofInt_sub]
theorem zI_mul (a b : Int) : zI a * zI b = zI (a * b) := by
  unfold zI
  rw [Int32.ofInt_mul]
theorem zI_neg (a : Int) : - zI a = zI (-a) := by
  unfold zI
  rw [Int32.ofInt_neg]
theorem zI_of (x : Int32) : ∃ k : Int, zr k ∧ x = zI k := ⟨x.toInt, ⟨Int32.le_toInt x, Int32.toInt_lt x⟩, by unfold zI; rw [Int32.ofInt_toInt]⟩
theorem zI_inj {a b : Int} (ha : zr a) (hb : zr b) : (zI a = zI b) = (a = b) := by
  apply propext
  constructor
  · intro h
    rw [← zI_toInt ha.1 ha.2, ← zI_toInt hb.1 hb.2, h]
  · intro h
    rw [h]
theorem zI_lt {a b : Int} (ha : zr a) (hb : zr b) : (zI a < zI b) = (a < b) := by
  rw [Int32.lt_iff_toInt_lt, zI_toInt ha.1 ha.2, zI_toInt hb.1 hb.2]
theorem zI_le {a b : Int} (ha : zr a) (hb : zr b) : (zI a ≤ zI b) = (a ≤ b) := by
  rw [Int32.le_iff_toInt_le, zI_toInt ha.1 ha.2, zI_toInt hb.1 hb.2]
theorem zI_0 : (0 : Int32) = zI 0 := rfl
theorem zI_1 : (1 : Int32) = zI 1 := rfl
theorem zI_eq0 {a : Int} (ha : zr a) : (zI a = 0) = (a = 0) := by rw [zI_0, zI_inj ha ⟨by decide, by decide⟩]
theorem zI_lt0 {a : Int} (ha : zr a) : (zI a < 0) = (a < 0) := by rw [zI_0, zI_lt ha ⟨by decide, by decide⟩]
theorem zI_gt0 {a : Int} (ha : zr a) : (0 < zI a) = (0 < a) := by rw [zI_0, zI_lt ⟨by decide, by decide⟩ ha]
theorem zI_le0 {a : Int} (ha : zr a) : (zI a ≤ 0) = (a ≤ 0) := by rw [zI_0, zI_le ha ⟨by decide, by decide⟩]
theorem zI_ge0 {a : Int} (ha : zr a) : (0 ≤ zI a) = (0 ≤ a) := by rw [zI_0, zI_le ⟨by decide, by decide⟩ ha]
theorem zI_toI {a : Int} (ha : zr a) : (zI a).toInt = a := zI_toInt ha.1 ha.2
theorem zI_clamp {k : Int} (h : zr k) : (zI k).toNatClampNeg = k.toNat := by
  show (zI k).toInt.toNat = _
  rw [zI_toInt h.1 h.2]
theorem zin_I {k : Int} {n : Nat} (h0 : 0 ≤ k) (h1 : k < n) (hn : (n : Int) ≤ 2147483648) : zin (zI k) n = true := by
  unfold zin
  rw [zI_toInt (by omega) (by omega)]
  simp [h0, h1]
theorem yil_ok {n t : Nat} {G : Int → Int} {k : Int} {K : Int32 → Option zA} (h0 : 0 ≤ k) (h1 : k < n) (hn : (n : Int) ≤ 2147483648) : yil (some (.inl (t, n, .inl (zAI G)))) t (zI k) K = K (zI (G k)) := by
  unfold yil
  dsimp only
  rw [if_pos ⟨Or.inl rfl, zin_I h0 h1 hn⟩, zI_clamp ⟨by omega, by omega⟩, zAI, Int.toNat_of_nonneg h0]
theorem yll_ok {n : Nat} {G : Int → Int} {k : Int} {K : Int64 → Option zA} (h0 : 0 ≤ k) (h1 : k < n) (hn : (n : Int) ≤ 2147483648) : yll (some (.inl (1, n, .inr (.inl (zAL G))))) (zI k) K = K (zL (G k)) := by
  unfold yll
  dsimp only
  rw [if_pos ⟨rfl, zin_I h0 h1 hn⟩, zI_clamp ⟨by omega, by omega⟩, zAL, Int.toNat_of_nonneg h0]
theorem yfl_ok {n : Nat} {G : Int → UInt32} {k : Int} {K : UInt32 → Option zA} (h0 : 0 ≤ k) (h1 : k < n) (hn : (n : Int) ≤ 2147483648) : yfl (some (.inl (2, n, .inr (.inr (.inl (zAF G)))))) (zI k) K = K (G k) := by
  unfold yfl
  dsimp only
  rw [if_pos ⟨rfl, zin_I h0 h1 hn⟩, zI_clamp ⟨by omega, by omega⟩, zAF, Int.toNat_of_nonneg h0]
theorem zAI_up {G : Int → Int} {k v : Int} (h0 : 0 ≤ k) : upd (zAI G) k.toNat (zI v) = zAI (zui G k v) := by
  funext j
  unfold upd zAI zui
  by_cases e : j = k.toNat
  · rw [if_pos e, if_pos (by omega)]
  · rw [if_neg e, if_neg (by omega)]
theorem zAL_up {G : Int → Int} {k v : Int} (h0 : 0 ≤ k) : vp_updL (zAL G) k.toNat (zL v) = zAL (zui G k v) := by
  funext j
  unfold vp_updL zAL zui
  by_cases e : j = k.toNat
  · rw [if_pos e, if_pos (by omega)]
  · rw [if_neg e, if_neg (by omega)]
theorem zAF_up {G : Int → UInt32} {k : Int} {v : UInt32} (h0 : 0 ≤ k) : vf_upd (zAF G) k.toNat v = zAF (zui G k v) := by
  funext j
  unfold vf_upd zAF zui
  by_cases e : j = k.toNat
  · rw [if_pos e, if_pos (by omega)]
  · rw [if_neg e, if_neg (by omega)]
theorem yis_ok {n t : Nat} {G : Int → Int} {k v : Int} {K : zC → Option zA} (h0 : 0 ≤ k) (h1 : k < n) (hn : (n : Int) ≤ 2147483648) : yis (some (.inl (t, n, .inl (zAI G)))) t (zI k) (zI v) K = K (.inl (t, n, .inl (zAI (zui G k v)))) := by
  unfold yis
  dsimp only
  rw [if_pos ⟨rfl, zin_I h0 h1 hn⟩, zI_clamp ⟨by omega, by omega⟩, zAI_up h0]
theorem zI_b8 {v : Int} (h0 : -128 ≤ v) (h1 : v < 128) : (zI v).toInt8.toInt32 = zI v := by
  rw [← zI_byte ⟨h0, h1⟩]
  simp
theorem yls_ok {n : Nat} {G : Int → Int} {k v : Int} {K : zC → Option zA} (h0 : 0 ≤ k) (h1 : k < n) (hn : (n : Int) ≤ 2147483648) : yls (some (.inl (1, n, .inr (.inl (zAL G))))) (zI k) (zL v) K = K (.inl (1, n, .inr (.inl (zAL (zui G k v))))) := by
  unfold yls
  dsimp only
  rw [if_pos ⟨rfl, zin_I h0 h1 hn⟩, zI_clamp ⟨by omega, by omega⟩, zAL_up h0]
theorem yfs_ok {n : Nat} {G : Int → UInt32} {k : Int} {v : UInt32} {K : zC → Option zA} (h0 : 0 ≤ k) (h1 : k < n) (hn : (n : Int) ≤ 2147483648) : yfs (some (.inl (2, n, .inr (.inr (.inl (zAF G)))))) (zI k) v K = K (.inl (2, n, .inr (.inr (.inl (zAF (zui G k v)))))) := by
  unfold yfs
  dsimp only
  rw [if_pos ⟨rfl, zin_I h0 h1 hn⟩, zI_clamp ⟨by omega, by omega⟩, zAF_up h0]
theorem yle_i {n u : Nat} {f : Nat → Int32} {K : Nat → Option zA} (h : u < 6) : yle (some (.inl (u, n, .inl f))) K = K n := if_pos (Or.inl h)
theorem yle_f {n : Nat} {f : Nat → UInt32} {K : Nat → Option zA} : yle (some (.inl (2, n, .inr (.inr (.inl f))))) K = K n := rfl
theorem yle_s {n : Nat} {f : Nat → Int32} {K : Nat → Option zA} : yle (some (.inl (9, n, .inl f))) K = K n := by
  unfold yle
  dsimp only
  rw [if_pos (Or.inr rfl)]
theorem y0_s {w : zW} {K : zW → Option zA} : y0 (some (none, w)) K = K w := rfl
theorem y1_s {v : Value} {w : zW} {K : Value → zW → Option zA} : y1 (some (some v, w)) K = K v w := rfl
theorem ybo_ok {k : Int} {r : Option zA} (h : k = 0 ∨ k = 1) : ybo (zI k) r = r := by
  unfold ybo
  rw [if_pos]
  rcases h with rfl | rfl
  · exact Or.inl rfl
  · exact Or.inr rfl
theorem zkp_i {x : Int32} : zkp (some (.int x)) = some (.int x) := rfl
theorem zkp_a {x : Nat} : zkp (some (.ref x)) = some (.ref x) := rfl
theorem zkp_f {x : UInt32} : zkp (some (.float x)) = some (.float x) := rfl
theorem zkp_l {x : Int64} : zkp (some (.long x)) = none := rfl
theorem zkp_d {x : UInt64} : zkp (some (.double x)) = none := rfl
theorem zkp_n : zkp none = none := rfl
theorem zset_w {z : Nat × Nat} {f : Nat → Option zC} {a : Nat} {c : zC} : zset (z, f) a c = (z, zup f a (some c)) := rfl
theorem zruns_if {M : zM} {own rt : Nat} {code : ByteArray} {c : Prop} {h : Decidable c} {p q : Nat} {L : zLoc} {st : List Value} {w : zW} : zruns M own rt code (@ite _ c h p q, L, st, w) = @ite _ c h (zruns M own rt code (p, L, st, w)) (zruns M own rt code (q, L, st, w)) := by
  by_cases e : c
  · rw [if_pos e, if_pos e]
  · rw [if_neg e, if_neg e]
theorem yal_m {b k n j : Nat} {i : Int} {K : Nat → Option zA} (h : i = j) (hj : j < n) (hn : (n : Int) ≤ 2147483648) : yal (some (.inl (4, n, .inr (.inr (.inr (.inr (fun j => if j < n then some (b + (k + 13 + 2 * j)) else none))))))) (zI i) K = K (b + (k + 13 + 2 * j)) := by
  unfold yal
  dsimp only
  rw [if_pos ⟨Or.inl rfl, zin_I (by omega) (by omega) hn⟩, zI_clamp ⟨by omega, by omega⟩, show i.toNat = j by omega, if_pos hj]
theorem yal_r {b k n j : Nat} {i : Int} {K : Nat → Option zA} (h : i = j) (hj : j < n) (hn : (n : Int) ≤ 2147483648) : yal (some (.inl (5, n, .inr (.inr (.inr (.inr (fun j => if j < n then some (b + (k + 2 + 2 * j)) else none))))))) (zI i) K = K (b + (k + 2 + 2 * j)) := by
  unfold yal
  dsimp only
  rw [if_pos ⟨Or.inr rfl, zin_I (by omega) (by omega) hn⟩, zI_clamp ⟨by omega, by omega⟩, show i.toNat = j by omega, if_pos hj]
theorem zw_mix {b k n : Nat} {σ : Nat → Nat → Int} {α lo : Nat → Int → Int} {φ : Nat → Int → UInt32} (hk : k < 180) (h : zlay k = (4, n)) : zw b σ α lo φ (b + k) = some (.inl (4, n, .inr (.inr (.inr (.inr (fun j => if j < n then some (b + (k + 13 + 2 * j)) else none)))))) := by
  rw [zw_at hk, zcell, h]
  rfl
theorem zw_rws {b k n : Nat} {σ : Nat → Nat → Int} {α lo : Nat → Int → Int} {φ : Nat → Int → UInt32} (hk : k < 180) (h : zlay k = (5, n)) : zw b σ α lo φ (b + k) = some (.inl (5, n, .inr (.inr (.inr (.inr (fun j => if j < n then some (b + (k + 2 + 2 * j)) else none)))))) := by
  rw [zw_at hk, zcell, h]
  rfl
theorem zw_0 {b : Nat} {σ : Nat → Nat → Int} {α lo : Nat → Int → Int} {φ : Nat → Int → UInt32} : zw b σ α lo φ b = some (.inr (11, [.ref (b + 1), .ref (b + 65), .int (zI (σ 0 2)), .ref (b + 129), .ref (b + 131), .ref (b + 133), .ref (b + 137), .ref (b + 143), .ref (b + 146), .ref (b + 151), .ref (b + 152)])) := zw_o11 (k := 0) (by decide) (by decide)
theorem zp_0_2 {b : Nat} {v : Int} {σ : Nat → Nat → Int} {α lo : Nat → Int → Int} {φ : Nat → Int → UInt32} : zup (zw b σ α lo φ) b (some (.inr (11, [.ref (b + 1), .ref (b + 65), .int (zI v), .ref (b + 129), .ref (b + 131), .ref (b + 133), .ref (b + 137), .ref (b + 143), .ref (b + 146), .ref (b + 151), .ref (b + 152)]))) = zw b (zus σ 0 2 v) α lo φ := zp_o11_2 (k := 0) (by decide) (by decide)
theorem zw_1 {b : Nat} {σ : Nat → Nat → Int} {α lo : Nat → Int → Int} {φ : Nat → Int → UInt32} : zw b σ α lo φ (b + 1) = some (.inr (1, [.ref (b + 2), .ref (b + 8), .ref (b + 9), .ref (b + 15)])) := zw_o1 (k := 1) (by decide) (by decide)
theorem zw_2 {b : Nat} {σ : Nat → Nat → Int} {α lo : Nat → Int → Int} {φ : Nat → Int → UInt32} : zw b σ α lo φ (b + 2) = some (.inr (5, [.ref (b + 3), .ref (b + 4), .ref (b + 5), .ref (b + 6), .ref (b + 7), .int (zI (σ 2 5))])) := zw_o5 (k := 2) (by decide) (by decide)
theorem zp_2_5 {b : Nat} {v : Int} {σ : Nat → Nat → Int} {α lo : Nat → Int → Int} {φ : Nat → Int → UInt32} : zup (zw b σ α lo φ) (b + 2) (some (.inr (5, [.ref (b + 3), .ref (b + 4), .ref (b + 5), .ref (b + 6), .ref (b + 7), .int (zI v)]))) = zw b (zus σ 2 5 v) α lo φ := zp_o5_5 (k := 2) (by decide) (by decide)
theorem zw_3 {b : Nat} {σ : Nat → Nat → Int} {α lo : Nat → Int → Int} {φ : Nat → Int → UInt32} : zw b σ α lo φ (b + 3) = some (.inl (1, 40, .inr (.inl (zAL (lo 3))))) := zw_lng (k := 3) (by decide) (by decide)
theorem zp_3 {b : Nat} {σ : Nat → Nat → Int} {α lo : Nat → Int → Int} {φ : Nat → Int → UInt32} {G : Int → Int} : zup (zw b σ α lo φ) (b + 3) (some (.inl (1, 40, .inr (.inl (zAL G))))) = zw b σ α (zup lo 3 G) φ := zp_lng (k := 3) (by decide) (by decide)
theorem zw_4 {b : Nat} {σ : Nat → Nat → Int} {α lo : Nat → Int → Int} {φ : Nat → Int → UInt32} : zw b σ α lo φ (b + 4) = some (.inl (0, 40, .inl (zAI (α 4)))) := zw_int (k := 4) (by decide) (by decide)
theorem zp_4 {b : Nat} {σ : Nat → Nat → Int} {α lo : Nat → Int → Int} {φ : Nat → Int → UInt32} {G : Int → Int} : zup (zw b σ α lo φ) (b + 4) (some (.inl (0, 40, .inl (zAI G)))) = zw b σ (zup α 4 G) lo φ := zp_int (k := 4) (by decide) (by decide)
theorem zw_5 {b : Nat} {σ : Nat → Nat → Int} {α lo : Nat → Int → Int} {φ : Nat → Int → UInt32} : zw b σ α lo φ (b + 5) = some (.inl (0, 40, .inl (zAI (α 5)))) := zw_int (k := 5) (by decide) (by decide)
theorem zp_5 {b : Nat} {σ : Nat → Nat → Int} {α lo : Nat → Int → Int} {φ : Nat → Int → UInt32} {G : Int → Int} : zup (zw b σ α lo φ) (b + 5) (some (.inl (0, 40, .inl (zAI G)))) = zw b σ (zup α 5 G) lo φ := zp_int (k := 5) (by decide) (by decide)
theorem zw_6 {b : Nat} {σ : Nat → Nat → Int} {α lo : Nat → Int → Int} {φ : Nat → Int → UInt32} : zw b σ α lo φ (b + 6) = some (.inl (0, 40, .inl (zAI (α 6)))) := zw_int (k := 6) (by decide) (by decide)
theorem zp_6 {b : Nat} {σ : Nat → Nat → Int} {α lo : Nat → Int → Int} {φ : Nat → Int → UInt32} {G : Int → Int} : zup (zw b σ α lo φ) (b + 6) (some (.inl (0, 40, .inl (zAI G)))) = zw b σ (zup α 6 G) lo φ := zp_int (k := 6) (by decide) (by decide)
theorem zw_7 {b : Nat} {σ : Nat → Nat → Int} {α lo : Nat → Int → Int} {φ : Nat → Int → UInt32} : zw b σ α lo φ (b + 7) = some (.inl (0, 40, .inl (zAI (α 7)))) := zw_int (k := 7) (by decide) (by decide)
theorem zp_7 {b : Nat} {σ : Nat → Nat → Int} {α lo : Nat → Int → Int} {φ : Nat → Int → UInt32} {G : Int → Int} : zup (zw b σ α lo φ) (b + 7) (some (.inl (0, 40, .inl (zAI G)))) = zw b σ (zup α 7 G) lo φ := zp_int (k := 7) (by decide) (by decide)
theorem zw_8 {b : Nat} {σ : Nat → Nat → Int} {α lo : Nat → Int → Int} {φ : Nat → Int → UInt32} : zw b σ α lo φ (b + 8) = some (.inl (4, 22, .inr (.inr (.inr (.inr (fun j => if j < 22 then some (b + (8 + 13 + 2 * j)) else none)))))) := zw_mix (k := 8) (by decide) (by decide)
theorem zw_9 {b : Nat} {σ : Nat → Nat → Int} {α lo : Nat → Int → Int} {φ : Nat → Int → UInt32} : zw b σ α lo φ (b + 9) = some (.inr (9, [.ref (b + 10), .ref (b + 11), .ref (b + 12), .ref (b + 13), .ref (b + 14), .int (zI (σ 9 5))])) := zw_o9 (k := 9) (by decide) (by decide)
theorem zp_9_5 {b : Nat} {v : Int} {σ : Nat → Nat → Int} {α lo : Nat → Int → Int} {φ : Nat → Int → UInt32} : zup (zw b σ α lo φ) (b + 9) (some (.inr (9, [.ref (b + 10), .ref (b + 11), .ref (b + 12), .ref (b + 13), .ref (b + 14), .int (zI v)]))) = zw b (zus σ 9 5 v) α lo φ := zp_o9_5 (k := 9) (by decide) (by decide)
theorem zw_10 {b : Nat} {σ : Nat → Nat → Int} {α lo : Nat → Int → Int} {φ : Nat → Int → UInt32} : zw b σ α lo φ (b + 10) = some (.inl (0, 8, .inl (zAI (α 10)))) := zw_int (k := 10) (by decide) (by decide)
theorem zp_10 {b : Nat} {σ : Nat → Nat → Int} {α lo : Nat → Int → Int} {φ : Nat → Int → UInt32} {G : Int → Int} : zup (zw b σ α lo φ) (b + 10) (some (.inl (0, 8, .inl (zAI G)))) = zw b σ (zup α 10 G) lo φ := zp_int (k := 10) (by decide) (by decide)
theorem zw_11 {b : Nat} {σ : Nat → Nat → Int} {α lo : Nat → Int → Int} {φ : Nat → Int → UInt32} : zw b σ α lo φ (b + 11) = some (.inl (0, 40, .inl (zAI (α 11)))) := zw_int (k := 11) (by decide) (by decide)
theorem zp_11 {b : Nat} {σ : Nat → Nat → Int} {α lo : Nat → Int → Int} {φ : Nat → Int → UInt32} {G : Int → Int} : zup (zw b σ α lo φ) (b + 11) (some (.inl (0, 40, .inl (zAI G)))) = zw b σ (zup α 11 G) lo φ := zp_int (k := 11) (by decide) (by decide)
theorem zw_12 {b : Nat} {σ : Nat → Nat → Int} {α lo : Nat → Int → Int} {φ : Nat → Int → UInt32} : zw b σ α lo φ (b + 12) = some (.inl (0, 30, .inl (zAI (α 12)))) := zw_int (k := 12) (by decide) (by decide)
theorem zp_12 {b : Nat} {σ : Nat → Nat → Int} {α lo : Nat → Int → Int} {φ : Nat → Int → UInt32} {G : Int → Int} : zup (zw b σ α lo φ) (b + 12) (some (.inl (0, 30, .inl (zAI G)))) = zw b σ (zup α 12 G) lo φ := zp_int (k := 12) (by decide) (by decide)
theorem zw_13 {b : Nat} {σ : Nat → Nat → Int} {α lo : Nat → Int → Int} {φ : Nat → Int → UInt32} : zw b σ α lo φ (b + 13) = some (.inl (0, 30, .inl (zAI (α 13)))) := zw_int (k := 13) (by decide) (by decide)
theorem zp_13 {b : Nat} {σ : Nat → Nat → Int} {α lo : Nat → Int → Int} {φ : Nat → Int → UInt32} {G : Int → Int} : zup (zw b σ α lo φ) (b + 13) (some (.inl (0, 30, .inl (zAI G)))) = zw b σ (zup α 13 G) lo φ := zp_int (k := 13) (by decide) (by decide)
theorem zw_14 {b : Nat} {σ : Nat → Nat → Int} {α lo : Nat → Int → Int} {φ : Nat → Int → UInt32} : zw b σ α lo φ (b + 14) = some (.inl (0, 30, .inl (zAI (α 14)))) := zw_int (k := 14) (by decide) (by decide)
theorem zp_14 {b : Nat} {σ : Nat → Nat → Int} {α lo : Nat → Int → Int} {φ : Nat → Int → UInt32} {G : Int → Int} : zup (zw b σ α lo φ) (b + 14) (some (.inl (0, 30, .inl (zAI G)))) = zw b σ (zup α 14 G) lo φ := zp_int (k := 14) (by decide) (by decide)
theorem zw_15 {b : Nat} {σ : Nat → Nat → Int} {α lo : Nat → Int → Int} {φ : Nat → Int → UInt32} : zw b σ α lo φ (b + 15) = some (.inr (6, [.ref (b + 16), .ref (b + 17), .ref (b + 18), .ref (b + 19), .ref (b + 20), .int (zI (σ 15 5))])) := zw_o6 (k := 15) (by decide) (by decide)
theorem zp_15_5 {b : Nat} {v : Int} {σ : Nat → Nat → Int} {α lo : Nat → Int → Int} {φ : Nat → Int → UInt32} : zup (zw b σ α lo φ) (b + 15) (some (.inr (6, [.ref (b + 16), .ref (b + 17), .ref (b + 18), .ref (b + 19), .ref (b + 20), .int (zI v)]))) = zw b (zus σ 15 5 v) α lo φ := zp_o6_5 (k := 15) (by decide) (by decide)
theorem zw_16 {b : Nat} {σ : Nat → Nat → Int} {α lo : Nat → Int → Int} {φ : Nat → Int → UInt32} : zw b σ α lo φ (b + 16) = some (.inl (0, 30, .inl (zAI (α 16)))) := zw_int (k := 16) (by decide) (by decide)
theorem zp_16 {b : Nat} {σ : Nat → Nat → Int} {α lo : Nat → Int → Int} {φ : Nat → Int → UInt32} {G : Int → Int} : zup (zw b σ α lo φ) (b + 16) (some (.inl (0, 30, .inl (zAI G)))) = zw b σ (zup α 16 G) lo φ := zp_int (k := 16) (by decide) (by decide)
theorem zw_17 {b : Nat} {σ : Nat → Nat → Int} {α lo : Nat → Int → Int} {φ : Nat → Int → UInt32} : zw b σ α lo φ (b + 17) = some (.inl (0, 30, .inl (zAI (α 17)))) := zw_int (k := 17) (by decide) (by decide)
theorem zp_17 {b : Nat} {σ : Nat → Nat → Int} {α lo : Nat → Int → Int} {φ : Nat → Int → UInt32} {G : Int → Int} : zup (zw b σ α lo φ) (b + 17) (some (.inl (0, 30, .inl (zAI G)))) = zw b σ (zup α 17 G) lo φ := zp_int (k := 17) (by decide) (by decide)
theorem zw_18 {b : Nat} {σ : Nat → Nat → Int} {α lo : Nat → Int → Int} {φ : Nat → Int → UInt32} : zw b σ α lo φ (b + 18) = some (.inl (0, 30, .inl (zAI (α 18)))) := zw_int (k := 18) (by decide) (by decide)
theorem zp_18 {b : Nat} {σ : Nat → Nat → Int} {α lo : Nat → Int → Int} {φ : Nat → Int → UInt32} {G : Int → Int} : zup (zw b σ α lo φ) (b + 18) (some (.inl (0, 30, .inl (zAI G)))) = zw b σ (zup α 18 G) lo φ := zp_int (k := 18) (by decide) (by decide)
theorem zw_19 {b : Nat} {σ : Nat → Nat → Int} {α lo : Nat → Int → Int} {φ : Nat → Int → UInt32} : zw b σ α lo φ (b + 19) = some (.inl (0, 30, .inl (zAI (α 19)))) := zw_int (k := 19) (by decide) (by decide)
theorem zp_19 {b : Nat} {σ : Nat → Nat → Int} {α lo : Nat → Int → Int} {φ : Nat → Int → UInt32} {G : Int → Int} : zup (zw b σ α lo φ) (b + 19) (some (.inl (0, 30, .inl (zAI G)))) = zw b σ (zup α 19 G) lo φ := zp_int (k := 19) (by decide) (by decide)
theorem zw_20 {b : Nat} {σ : Nat → Nat → Int} {α lo : Nat → Int → Int} {φ : Nat → Int → UInt32} : zw b σ α lo φ (b + 20) = some (.inl (0, 30, .inl (zAI (α 20)))) := zw_int (k := 20) (by decide) (by decide)
theorem zp_20 {b : Nat} {σ : Nat → Nat → Int} {α lo : Nat → Int → Int} {φ : Nat → Int → UInt32} {G : Int → Int} : zup (zw b σ α lo φ) (b + 20) (some (.inl (0, 30, .inl (zAI G)))) = zw b σ (zup α 20 G) lo φ := zp_int (k := 20) (by decide) (by decide)
theorem zw_65 {b : Nat} {σ : Nat → Nat → Int} {α lo : Nat → Int → Int} {φ : Nat → Int → UInt32} : zw b σ α lo φ (b + 65) = some (.inr (1, [.ref (b + 66), .ref (b + 72), .ref (b + 73), .ref (b + 79)])) := zw_o1 (k := 65) (by decide) (by decide)
theorem zw_66 {b : Nat} {σ : Nat → Nat → Int} {α lo : Nat → Int → Int} {φ : Nat → Int → UInt32} : zw b σ α lo φ (b + 66) = some (.inr (5, [.ref (b + 67), .ref (b + 68), .ref (b + 69), .ref (b + 70), .ref (b + 71), .int (zI (σ 66 5))])) := zw_o5 (k := 66) (by decide) (by decide)
theorem zp_66_5 {b : Nat} {v : Int} {σ : Nat → Nat → Int} {α lo : Nat → Int → Int} {φ : Nat → Int → UInt32} : zup (zw b σ α lo φ) (b + 66) (some (.inr (5, [.ref (b + 67), .ref (b + 68), .ref (b + 69), .ref (b + 70), .ref (b + 71), .int (zI v)]))) = zw b (zus σ 66 5 v) α lo φ := zp_o5_5 (k := 66) (by decide) (by decide)
theorem zw_67 {b : Nat} {σ : Nat → Nat → Int} {α lo : Nat → Int → Int} {φ : Nat → Int → UInt32} : zw b σ α lo φ (b + 67) = some (.inl (1, 40, .inr (.inl (zAL (lo 67))))) := zw_lng (k := 67) (by decide) (by decide)
theorem zp_67 {b : Nat} {σ : Nat → Nat → Int} {α lo : Nat → Int → Int} {φ : Nat → Int → UInt32} {G : Int → Int} : zup (zw b σ α lo φ) (b + 67) (some (.inl (1, 40, .inr (.inl (zAL G))))) = zw b σ α (zup lo 67 G) φ := zp_lng (k := 67) (by decide) (by decide)
theorem zw_68 {b : Nat} {σ : Nat → Nat → Int} {α lo : Nat → Int → Int} {φ : Nat → Int → UInt32} : zw b σ α lo φ (b + 68) = some (.inl (0, 40, .inl (zAI (α 68)))) := zw_int (k := 68) (by decide) (by decide)
theorem zp_68 {b : Nat} {σ : Nat → Nat → Int} {α lo : Nat → Int → Int} {φ : Nat → Int → UInt32} {G : Int → Int} : zup (zw b σ α lo φ) (b + 68) (some (.inl (0, 40, .inl (zAI G)))) = zw b σ (zup α 68 G) lo φ := zp_int (k := 68) (by decide) (by decide)
theorem zw_69 {b : Nat} {σ : Nat → Nat → Int} {α lo : Nat → Int → Int} {φ : Nat → Int → UInt32} : zw b σ α lo φ (b + 69) = some (.inl (0, 40, .inl (zAI (α 69)))) := zw_int (k := 69) (by decide) (by decide)
theorem zp_69 {b : Nat} {σ : Nat → Nat → Int} {α lo : Nat → Int → Int} {φ : Nat → Int → UInt32} {G : Int → Int} : zup (zw b σ α lo φ) (b + 69) (some (.inl (0, 40, .inl (zAI G)))) = zw b σ (zup α 69 G) lo φ := zp_int (k := 69) (by decide) (by decide)
theorem zw_70 {b : Nat} {σ : Nat → Nat → Int} {α lo : Nat → Int → Int} {φ : Nat → Int → UInt32} : zw b σ α lo φ (b + 70) = some (.inl (0, 40, .inl (zAI (α 70)))) := zw_int (k := 70) (by decide) (by decide)
theorem zp_70 {b : Nat} {σ : Nat → Nat → Int} {α lo : Nat → Int → Int} {φ : Nat → Int → UInt32} {G : Int → Int} : zup (zw b σ α lo φ) (b + 70) (some (.inl (0, 40, .inl (zAI G)))) = zw b σ (zup α 70 G) lo φ := zp_int (k := 70) (by decide) (by decide)
theorem zw_71 {b : Nat} {σ : Nat → Nat → Int} {α lo : Nat → Int → Int} {φ : Nat → Int → UInt32} : zw b σ α lo φ (b + 71) = some (.inl (0, 40, .inl (zAI (α 71)))) := zw_int (k := 71) (by decide) (by decide)
theorem zp_71 {b : Nat} {σ : Nat → Nat → Int} {α lo : Nat → Int → Int} {φ : Nat → Int → UInt32} {G : Int → Int} : zup (zw b σ α lo φ) (b + 71) (some (.inl (0, 40, .inl (zAI G)))) = zw b σ (zup α 71 G) lo φ := zp_int (k := 71) (by decide) (by decide)
theorem zw_72 {b : Nat} {σ : Nat → Nat → Int} {α lo : Nat → Int → Int} {φ : Nat → Int → UInt32} : zw b σ α lo φ (b + 72) = some (.inl (4, 22, .inr (.inr (.inr (.inr (fun j => if j < 22 then some (b + (72 + 13 + 2 * j)) else none)))))) := zw_mix (k := 72) (by decide) (by decide)
theorem zw_73 {b : Nat} {σ : Nat → Nat → Int} {α lo : Nat → Int → Int} {φ : Nat → Int → UInt32} : zw b σ α lo φ (b + 73) = some (.inr (9, [.ref (b + 74), .ref (b + 75), .ref (b + 76), .ref (b + 77), .ref (b + 78), .int (zI (σ 73 5))])) := zw_o9 (k := 73) (by decide) (by decide)
theorem zp_73_5 {b : Nat} {v : Int} {σ : Nat → Nat → Int} {α lo : Nat → Int → Int} {φ : Nat → Int → UInt32} : zup (zw b σ α lo φ) (b + 73) (some (.inr (9, [.ref (b + 74), .ref (b + 75), .ref (b + 76), .ref (b + 77), .ref (b + 78), .int (zI v)]))) = zw b (zus σ 73 5 v) α lo φ := zp_o9_5 (k := 73) (by decide) (by decide)
theorem zw_74 {b : Nat} {σ : Nat → Nat → Int} {α lo : Nat → Int → Int} {φ : Nat → Int → UInt32} : zw b σ α lo φ (b + 74) = some (.inl (0, 8, .inl (zAI (α 74)))) := zw_int (k := 74) (by decide) (by decide)
theorem zp_74 {b : Nat} {σ : Nat → Nat → Int} {α lo : Nat → Int → Int} {φ : Nat → Int → UInt32} {G : Int → Int} : zup (zw b σ α lo φ) (b + 74) (some (.inl (0, 8, .inl (zAI G)))) = zw b σ (zup α 74 G) lo φ := zp_int (k := 74) (by decide) (by decide)
theorem zw_75 {b : Nat} {σ : Nat → Nat → Int} {α lo : Nat → Int → Int} {φ : Nat → Int → UInt32} : zw b σ α lo φ (b + 75) = some (.inl (0, 40, .inl (zAI (α 75)))) := zw_int (k := 75) (by decide) (by decide)
theorem zp_75 {b : Nat} {σ : Nat → Nat → Int} {α lo : Nat → Int → Int} {φ : Nat → Int → UInt32} {G : Int → Int} : zup (zw b σ α lo φ) (b + 75) (some (.inl (0, 40, .inl (zAI G)))) = zw b σ (zup α 75 G) lo φ := zp_int (k := 75) (by decide) (by decide)
theorem zw_76 {b : Nat} {σ : Nat → Nat → Int} {α lo : Nat → Int → Int} {φ : Nat → Int → UInt32} : zw b σ α lo φ (b + 76) = some (.inl (0, 30, .inl (zAI (α 76)))) := zw_int (k := 76) (by decide) (by decide)
theorem zp_76 {b : Nat} {σ : Nat → Nat → Int} {α lo : Nat → Int → Int} {φ : Nat → Int → UInt32} {G : Int → Int} : zup (zw b σ α lo φ) (b + 76) (some (.inl (0, 30, .inl (zAI G)))) = zw b σ (zup α 76 G) lo φ := zp_int (k := 76) (by decide) (by decide)
theorem zw_77 {b : Nat} {σ : Nat → Nat → Int} {α lo : Nat → Int → Int} {φ : Nat → Int → UInt32} : zw b σ α lo φ (b + 77) = some (.inl (0, 30, .inl (zAI (α 77)))) := zw_int (k := 77) (by decide) (by decide)
theorem zp_77 {b : Nat} {σ : Nat → Nat → Int} {α lo : Nat → Int → Int} {φ : Nat → Int → UInt32} {G : Int → Int} : zup (zw b σ α lo φ) (b + 77) (some (.inl (0, 30, .inl (zAI G)))) = zw b σ (zup α 77 G) lo φ := zp_int (k := 77) (by decide) (by decide)
theorem zw_78 {b : Nat} {σ : Nat → Nat → Int} {α lo : Nat → Int → Int} {φ : Nat → Int → UInt32} : zw b σ α lo φ (b + 78) = some (.inl (0, 30, .inl (zAI (α 78)))) := zw_int (k := 78) (by decide) (by decide)
theorem zp_78 {b : Nat} {σ : Nat → Nat → Int} {α lo : Nat → Int → Int} {φ : Nat → Int → UInt32} {G : Int → Int} : zup (zw b σ α lo φ) (b + 78) (some (.inl (0, 30, .inl (zAI G)))) = zw b σ (zup α 78 G) lo φ := zp_int (k := 78) (by decide) (by decide)
theorem zw_79 {b : Nat} {σ : Nat → Nat → Int} {α lo : Nat → Int → Int} {φ : Nat → Int → UInt32} : zw b σ α lo φ (b + 79) = some (.inr (6, [.ref (b + 80), .ref (b + 81), .ref (b + 82), .ref (b + 83), .ref (b + 84), .int (zI (σ 79 5))])) := zw_o6 (k := 79) (by decide) (by decide)
theorem zp_79_5 {b : Nat} {v : Int} {σ : Nat → Nat → Int} {α lo : Nat → Int → Int} {φ : Nat → Int → UInt32} : zup (zw b σ α lo φ) (b + 79) (some (.inr (6, [.ref (b + 80), .ref (b + 81), .ref (b + 82), .ref (b + 83), .ref (b + 84), .int (zI v)]))) = zw b (zus σ 79 5 v) α lo φ := zp_o6_5 (k := 79) (by decide) (by decide)
theorem zw_80 {b : Nat} {σ : Nat → Nat → Int} {α lo : Nat → Int → Int} {φ : Nat → Int → UInt32} : zw b σ α lo φ (b + 80) = some (.inl (0, 30, .inl (zAI (α 80)))) := zw_int (k := 80) (by decide) (by decide)
theorem zp_80 {b : Nat} {σ : Nat → Nat → Int} {α lo : Nat → Int → Int} {φ : Nat → Int → UInt32} {G : Int → Int} : zup (zw b σ α lo φ) (b + 80) (some (.inl (0, 30, .inl (zAI G)))) = zw b σ (zup α 80 G) lo φ := zp_int (k := 80) (by decide) (by decide)
theorem zw_81 {b : Nat} {σ : Nat → Nat → Int} {α lo : Nat → Int → Int} {φ : Nat → Int → UInt32} : zw b σ α lo φ (b + 81) = some (.inl (0, 30, .inl (zAI (α 81)))) := zw_int (k := 81) (by decide) (by decide)
theorem zp_81 {b : Nat} {σ : Nat → Nat → Int} {α lo : Nat → Int → Int} {φ : Nat → Int → UInt32} {G : Int → Int} : zup (zw b σ α lo φ) (b + 81) (some (.inl (0, 30, .inl (zAI G)))) = zw b σ (zup α 81 G) lo φ := zp_int (k := 81) (by decide) (by decide)
theorem zw_82 {b : Nat} {σ : Nat → Nat → Int} {α lo : Nat → Int → Int} {φ : Nat → Int → UInt32} : zw b σ α lo φ (b + 82) = some (.inl (0, 30, .inl (zAI (α 82)))) := zw_int (k := 82) (by decide) (by decide)
theorem zp_82 {b : Nat} {σ : Nat → Nat → Int} {α lo : Nat → Int → Int} {φ : Nat → Int → UInt32} {G : Int → Int} : zup (zw b σ α lo φ) (b + 82) (some (.inl (0, 30, .inl (zAI G)))) = zw b σ (zup α 82 G) lo φ := zp_int (k := 82) (by decide) (by decide)
theorem zw_83 {b : Nat} {σ : Nat → Nat → Int} {α lo : Nat → Int → Int} {φ : Nat → Int → UInt32} : zw b σ α lo φ (b + 83) = some (.inl (0, 30, .inl (zAI (α 83)))) := zw_int (k := 83) (by decide) (by decide)
theorem zp_83 {b : Nat} {σ : Nat → Nat → Int} {α lo : Nat → Int → Int} {φ : Nat → Int → UInt32} {G : Int → Int} : zup (zw b σ α lo φ) (b + 83) (some (.inl (0, 30, .inl (zAI G)))) = zw b σ (zup α 83 G) lo φ := zp_int (k := 83) (by decide) (by decide)
theorem zw_84 {b : Nat} {σ : Nat → Nat → Int} {α lo : Nat → Int → Int} {φ : Nat → Int → UInt32} : zw b σ α lo φ (b + 84) = some (.inl (0, 30, .inl (zAI (α 84)))) := zw_int (k := 84) (by decide) (by decide)
theorem zp_84 {b : Nat} {σ : Nat → Nat → Int} {α lo : Nat → Int → Int} {φ : Nat → Int → UInt32} {G : Int → Int} : zup (zw b σ α lo φ) (b + 84) (some (.inl (0, 30, .inl (zAI G)))) = zw b σ (zup α 84 G) lo φ := zp_int (k := 84) (by decide) (by decide)
theorem zw_129 {b : Nat} {σ : Nat → Nat → Int} {α lo : Nat → Int → Int} {φ : Nat → Int → UInt32} : zw b σ α lo φ (b + 129) = some (.inr (10, [.ref (b + 130), .int (zI (σ 129 1))])) := zw_o10 (k := 129) (by decide) (by decide)
theorem zp_129_1 {b : Nat} {v : Int} {σ : Nat → Nat → Int} {α lo : Nat → Int → Int} {φ : Nat → Int → UInt32} : zup (zw b σ α lo φ) (b + 129) (some (.inr (10, [.ref (b + 130), .int (zI v)]))) = zw b (zus σ 129 1 v) α lo φ := zp_o10_1 (k := 129) (by decide) (by decide)
theorem zw_130 {b : Nat} {σ : Nat → Nat → Int} {α lo : Nat → Int → Int} {φ : Nat → Int → UInt32} : zw b σ α lo φ (b + 130) = some (.inl (3, 120, .inl (zAI (α 130)))) := zw_byt (k := 130) (by decide) (by decide)
theorem zp_130 {b : Nat} {σ : Nat → Nat → Int} {α lo : Nat → Int → Int} {φ : Nat → Int → UInt32} {G : Int → Int} : zup (zw b σ α lo φ) (b + 130) (some (.inl (3, 120, .inl (zAI G)))) = zw b σ (zup α 130 G) lo φ := zp_byt (k := 130) (by decide) (by decide)
theorem zw_131 {b : Nat} {σ : Nat → Nat → Int} {α lo : Nat → Int → Int} {φ : Nat → Int → UInt32} : zw b σ α lo φ (b + 131) = some (.inr (10, [.ref (b + 132), .int (zI (σ 131 1))])) := zw_o10 (k := 131) (by decide) (by decide)
theorem zp_131_1 {b : Nat} {v : Int} {σ : Nat → Nat → Int} {α lo : Nat → Int → Int} {φ : Nat → Int → UInt32} : zup (zw b σ α lo φ) (b + 131) (some (.inr (10, [.ref (b + 132), .int (zI v)]))) = zw b (zus σ 131 1 v) α lo φ := zp_o10_1 (k := 131) (by decide) (by decide)
theorem zw_132 {b : Nat} {σ : Nat → Nat → Int} {α lo : Nat → Int → Int} {φ : Nat → Int → UInt32} : zw b σ α lo φ (b + 132) = some (.inl (3, 520, .inl (zAI (α 132)))) := zw_byt (k := 132) (by decide) (by decide)
theorem zp_132 {b : Nat} {σ : Nat → Nat → Int} {α lo : Nat → Int → Int} {φ : Nat → Int → UInt32} {G : Int → Int} : zup (zw b σ α lo φ) (b + 132) (some (.inl (3, 520, .inl (zAI G)))) = zw b σ (zup α 132 G) lo φ := zp_byt (k := 132) (by decide) (by decide)
theorem zw_133 {b : Nat} {σ : Nat → Nat → Int} {α lo : Nat → Int → Int} {φ : Nat → Int → UInt32} : zw b σ α lo φ (b + 133) = some (.inr (7, [.ref (b + 134), .ref (b + 135), .ref (b + 136), .ref (b + 129), .ref (b + 2), .int (zI (σ 133 5)), .int (zI (σ 133 6)), .int (zI (σ 133 7))])) := zw_o7 (k := 133) (by decide) (by decide)
theorem zp_133_5 {b : Nat} {v : Int} {σ : Nat → Nat → Int} {α lo : Nat → Int → Int} {φ : Nat → Int → UInt32} : zup (zw b σ α lo φ) (b + 133) (some (.inr (7, [.ref (b + 134), .ref (b + 135), .ref (b + 136), .ref (b + 129), .ref (b + 2), .int (zI v), .int (zI (σ 133 6)), .int (zI (σ 133 7))]))) = zw b (zus σ 133 5 v) α lo φ := zp_o7_5 (k := 133) (by decide) (by decide)
theorem zp_133_6 {b : Nat} {v : Int} {σ : Nat → Nat → Int} {α lo : Nat → Int → Int} {φ : Nat → Int → UInt32} : zup (zw b σ α lo φ) (b + 133) (some (.inr (7, [.ref (b + 134), .ref (b + 135), .ref (b + 136), .ref (b + 129), .ref (b + 2), .int (zI (σ 133 5)), .int (zI v), .int (zI (σ 133 7))]))) = zw b (zus σ 133 6 v) α lo φ := zp_o7_6 (k := 133) (by decide) (by decide)
theorem zp_133_7 {b : Nat} {v : Int} {σ : Nat → Nat → Int} {α lo : Nat → Int → Int} {φ : Nat → Int → UInt32} : zup (zw b σ α lo φ) (b + 133) (some (.inr (7, [.ref (b + 134), .ref (b + 135), .ref (b + 136), .ref (b + 129), .ref (b + 2), .int (zI (σ 133 5)), .int (zI (σ 133 6)), .int (zI v)]))) = zw b (zus σ 133 7 v) α lo φ := zp_o7_7 (k := 133) (by decide) (by decide)
theorem zw_134 {b : Nat} {σ : Nat → Nat → Int} {α lo : Nat → Int → Int} {φ : Nat → Int → UInt32} : zw b σ α lo φ (b + 134) = some (.inl (0, 60, .inl (zAI (α 134)))) := zw_int (k := 134) (by decide) (by decide)
theorem zp_134 {b : Nat} {σ : Nat → Nat → Int} {α lo : Nat → Int → Int} {φ : Nat → Int → UInt32} {G : Int → Int} : zup (zw b σ α lo φ) (b + 134) (some (.inl (0, 60, .inl (zAI G)))) = zw b σ (zup α 134 G) lo φ := zp_int (k := 134) (by decide) (by decide)
theorem zw_135 {b : Nat} {σ : Nat → Nat → Int} {α lo : Nat → Int → Int} {φ : Nat → Int → UInt32} : zw b σ α lo φ (b + 135) = some (.inl (0, 60, .inl (zAI (α 135)))) := zw_int (k := 135) (by decide) (by decide)
theorem zp_135 {b : Nat} {σ : Nat → Nat → Int} {α lo : Nat → Int → Int} {φ : Nat → Int → UInt32} {G : Int → Int} : zup (zw b σ α lo φ) (b + 135) (some (.inl (0, 60, .inl (zAI G)))) = zw b σ (zup α 135 G) lo φ := zp_int (k := 135) (by decide) (by decide)
theorem zw_136 {b : Nat} {σ : Nat → Nat → Int} {α lo : Nat → Int → Int} {φ : Nat → Int → UInt32} : zw b σ α lo φ (b + 136) = some (.inl (0, 60, .inl (zAI (α 136)))) := zw_int (k := 136) (by decide) (by decide)
theorem zp_136 {b : Nat} {σ : Nat → Nat → Int} {α lo : Nat → Int → Int} {φ : Nat → Int → UInt32} {G : Int → Int} : zup (zw b σ α lo φ) (b + 136) (some (.inl (0, 60, .inl (zAI G)))) = zw b σ (zup α 136 G) lo φ := zp_int (k := 136) (by decide) (by decide)
theorem zw_137 {b : Nat} {σ : Nat → Nat → Int} {α lo : Nat → Int → Int} {φ : Nat → Int → UInt32} : zw b σ α lo φ (b + 137) = some (.inr (2, [.ref (b + 138), .ref (b + 140), .ref (b + 142)])) := zw_o2 (k := 137) (by decide) (by decide)
theorem zw_138 {b : Nat} {σ : Nat → Nat → Int} {α lo : Nat → Int → Int} {φ : Nat → Int → UInt32} : zw b σ α lo φ (b + 138) = some (.inr (3, [.ref (b + 139), .int (zI (σ 138 1))])) := zw_o3 (k := 138) (by decide) (by decide)
theorem zp_138_1 {b : Nat} {v : Int} {σ : Nat → Nat → Int} {α lo : Nat → Int → Int} {φ : Nat → Int → UInt32} : zup (zw b σ α lo φ) (b + 138) (some (.inr (3, [.ref (b + 139), .int (zI v)]))) = zw b (zus σ 138 1 v) α lo φ := zp_o3_1 (k := 138) (by decide) (by decide)
theorem zw_139 {b : Nat} {σ : Nat → Nat → Int} {α lo : Nat → Int → Int} {φ : Nat → Int → UInt32} : zw b σ α lo φ (b + 139) = some (.inl (0, 40, .inl (zAI (α 139)))) := zw_int (k := 139) (by decide) (by decide)
theorem zp_139 {b : Nat} {σ : Nat → Nat → Int} {α lo : Nat → Int → Int} {φ : Nat → Int → UInt32} {G : Int → Int} : zup (zw b σ α lo φ) (b + 139) (some (.inl (0, 40, .inl (zAI G)))) = zw b σ (zup α 139 G) lo φ := zp_int (k := 139) (by decide) (by decide)
theorem zw_140 {b : Nat} {σ : Nat → Nat → Int} {α lo : Nat → Int → Int} {φ : Nat → Int → UInt32} : zw b σ α lo φ (b + 140) = some (.inr (3, [.ref (b + 141), .int (zI (σ 140 1))])) := zw_o3 (k := 140) (by decide) (by decide)
theorem zp_140_1 {b : Nat} {v : Int} {σ : Nat → Nat → Int} {α lo : Nat → Int → Int} {φ : Nat → Int → UInt32} : zup (zw b σ α lo φ) (b + 140) (some (.inr (3, [.ref (b + 141), .int (zI v)]))) = zw b (zus σ 140 1 v) α lo φ := zp_o3_1 (k := 140) (by decide) (by decide)
theorem zw_141 {b : Nat} {σ : Nat → Nat → Int} {α lo : Nat → Int → Int} {φ : Nat → Int → UInt32} : zw b σ α lo φ (b + 141) = some (.inl (0, 40, .inl (zAI (α 141)))) := zw_int (k := 141) (by decide) (by decide)
theorem zp_141 {b : Nat} {σ : Nat → Nat → Int} {α lo : Nat → Int → Int} {φ : Nat → Int → UInt32} {G : Int → Int} : zup (zw b σ α lo φ) (b + 141) (some (.inl (0, 40, .inl (zAI G)))) = zw b σ (zup α 141 G) lo φ := zp_int (k := 141) (by decide) (by decide)
theorem zw_142 {b : Nat} {σ : Nat → Nat → Int} {α lo : Nat → Int → Int} {φ : Nat → Int → UInt32} : zw b σ α lo φ (b + 142) = some (.inl (0, 40, .inl (zAI (α 142)))) := zw_int (k := 142) (by decide) (by decide)
theorem zp_142 {b : Nat} {σ : Nat → Nat → Int} {α lo : Nat → Int → Int} {φ : Nat → Int → UInt32} {G : Int → Int} : zup (zw b σ α lo φ) (b + 142) (some (.inl (0, 40, .inl (zAI G)))) = zw b σ (zup α 142 G) lo φ := zp_int (k := 142) (by decide) (by decide)
theorem zw_143 {b : Nat} {σ : Nat → Nat → Int} {α lo : Nat → Int → Int} {φ : Nat → Int → UInt32} : zw b σ α lo φ (b + 143) = some (.inr (4, [.ref (b + 144)])) := zw_o4 (k := 143) (by decide) (by decide)
theorem zw_144 {b : Nat} {σ : Nat → Nat → Int} {α lo : Nat → Int → Int} {φ : Nat → Int → UInt32} : zw b σ α lo φ (b + 144) = some (.inr (3, [.ref (b + 145), .int (zI (σ 144 1))])) := zw_o3 (k := 144) (by decide) (by decide)
theorem zp_144_1 {b : Nat} {v : Int} {σ : Nat → Nat → Int} {α lo : Nat → Int → Int} {φ : Nat → Int → UInt32} : zup (zw b σ α lo φ) (b + 144) (some (.inr (3, [.ref (b + 145), .int (zI v)]))) = zw b (zus σ 144 1 v) α lo φ := zp_o3_1 (k := 144) (by decide) (by decide)
theorem zw_145 {b : Nat} {σ : Nat → Nat → Int} {α lo : Nat → Int → Int} {φ : Nat → Int → UInt32} : zw b σ α lo φ (b + 145) = some (.inl (0, 40, .inl (zAI (α 145)))) := zw_int (k := 145) (by decide) (by decide)
theorem zp_145 {b : Nat} {σ : Nat → Nat → Int} {α lo : Nat → Int → Int} {φ : Nat → Int → UInt32} {G : Int → Int} : zup (zw b σ α lo φ) (b + 145) (some (.inl (0, 40, .inl (zAI G)))) = zw b σ (zup α 145 G) lo φ := zp_int (k := 145) (by decide) (by decide)
theorem zw_146 {b : Nat} {σ : Nat → Nat → Int} {α lo : Nat → Int → Int} {φ : Nat → Int → UInt32} : zw b σ α lo φ (b + 146) = some (.inr (0, [.ref (b + 147), .ref (b + 148), .ref (b + 149), .ref (b + 150), .int (zI (σ 146 4))])) := zw_o0 (k := 146) (by decide) (by decide)
theorem zp_146_4 {b : Nat} {v : Int} {σ : Nat → Nat → Int} {α lo : Nat → Int → Int} {φ : Nat → Int → UInt32} : zup (zw b σ α lo φ) (b + 146) (some (.inr (0, [.ref (b + 147), .ref (b + 148), .ref (b + 149), .ref (b + 150), .int (zI v)]))) = zw b (zus σ 146 4 v) α lo φ := zp_o0_4 (k := 146) (by decide) (by decide)
theorem zw_147 {b : Nat} {σ : Nat → Nat → Int} {α lo : Nat → Int → Int} {φ : Nat → Int → UInt32} : zw b σ α lo φ (b + 147) = some (.inl (2, 40, .inr (.inr (.inl (zAF (φ 147)))))) := zw_flt (k := 147) (by decide) (by decide)
theorem zp_147 {b : Nat} {σ : Nat → Nat → Int} {α lo : Nat → Int → Int} {φ : Nat → Int → UInt32} {G : Int → UInt32} : zup (zw b σ α lo φ) (b + 147) (some (.inl (2, 40, .inr (.inr (.inl (zAF G)))))) = zw b σ α lo (zup φ 147 G) := zp_flt (k := 147) (by decide) (by decide)
theorem zw_148 {b : Nat} {σ : Nat → Nat → Int} {α lo : Nat → Int → Int} {φ : Nat → Int → UInt32} : zw b σ α lo φ (b + 148) = some (.inl (2, 40, .inr (.inr (.inl (zAF (φ 148)))))) := zw_flt (k := 148) (by decide) (by decide)
theorem zp_148 {b : Nat} {σ : Nat → Nat → Int} {α lo : Nat → Int → Int} {φ : Nat → Int → UInt32} {G : Int → UInt32} : zup (zw b σ α lo φ) (b + 148) (some (.inl (2, 40, .inr (.inr (.inl (zAF G)))))) = zw b σ α lo (zup φ 148 G) := zp_flt (k := 148) (by decide) (by decide)
theorem zw_149 {b : Nat} {σ : Nat → Nat → Int} {α lo : Nat → Int → Int} {φ : Nat → Int → UInt32} : zw b σ α lo φ (b + 149) = some (.inl (0, 40, .inl (zAI (α 149)))) := zw_int (k := 149) (by decide) (by decide)
theorem zp_149 {b : Nat} {σ : Nat → Nat → Int} {α lo : Nat → Int → Int} {φ : Nat → Int → UInt32} {G : Int → Int} : zup (zw b σ α lo φ) (b + 149) (some (.inl (0, 40, .inl (zAI G)))) = zw b σ (zup α 149 G) lo φ := zp_int (k := 149) (by decide) (by decide)
theorem zw_150 {b : Nat} {σ : Nat → Nat → Int} {α lo : Nat → Int → Int} {φ : Nat → Int → UInt32} : zw b σ α lo φ (b + 150) = some (.inl (2, 8, .inr (.inr (.inl (zAF (φ 150)))))) := zw_flt (k := 150) (by decide) (by decide)
theorem zp_150 {b : Nat} {σ : Nat → Nat → Int} {α lo : Nat → Int → Int} {φ : Nat → Int → UInt32} {G : Int → UInt32} : zup (zw b σ α lo φ) (b + 150) (some (.inl (2, 8, .inr (.inr (.inl (zAF G)))))) = zw b σ α lo (zup φ 150 G) := zp_flt (k := 150) (by decide) (by decide)
theorem zw_151 {b : Nat} {σ : Nat → Nat → Int} {α lo : Nat → Int → Int} {φ : Nat → Int → UInt32} : zw b σ α lo φ (b + 151) = some (.inl (5, 6, .inr (.inr (.inr (.inr (fun j => if j < 6 then some (b + (151 + 2 + 2 * j)) else none)))))) := zw_rws (k := 151) (by decide) (by decide)
theorem zw_152 {b : Nat} {σ : Nat → Nat → Int} {α lo : Nat → Int → Int} {φ : Nat → Int → UInt32} : zw b σ α lo φ (b + 152) = some (.inl (0, 200, .inl (zAI (α 152)))) := zw_int (k := 152) (by decide) (by decide)
theorem zp_152 {b : Nat} {σ : Nat → Nat → Int} {α lo : Nat → Int → Int} {φ : Nat → Int → UInt32} {G : Int → Int} : zup (zw b σ α lo φ) (b + 152) (some (.inl (0, 200, .inl (zAI G)))) = zw b σ (zup α 152 G) lo φ := zp_int (k := 152) (by decide) (by decide)
theorem zw_153 {b : Nat} {σ : Nat → Nat → Int} {α lo : Nat → Int → Int} {φ : Nat → Int → UInt32} : zw b σ α lo φ (b + 153) = some (.inr (8, [.ref (b + 154), .int (zI (σ 153 1)), .int (zI (σ 153 2)), .int (zI (σ 153 3))])) := zw_o8 (k := 153) (by decide) (by decide)
theorem zp_153_1 {b : Nat} {v : Int} {σ : Nat → Nat → Int} {α lo : Nat → Int → Int} {φ : Nat → Int → UInt32} : zup (zw b σ α lo φ) (b + 153) (some (.inr (8, [.ref (b + 154), .int (zI v), .int (zI (σ 153 2)), .int (zI (σ 153 3))]))) = zw b (zus σ 153 1 v) α lo φ := zp_o8_1 (k := 153) (by decide) (by decide)
theorem zp_153_2 {b : Nat} {v : Int} {σ : Nat → Nat → Int} {α lo : Nat → Int → Int} {φ : Nat → Int → UInt32} : zup (zw b σ α lo φ) (b + 153) (some (.inr (8, [.ref (b + 154), .int (zI (σ 153 1)), .int (zI v), .int (zI (σ 153 3))]))) = zw b (zus σ 153 2 v) α lo φ := zp_o8_2 (k := 153) (by decide) (by decide)
theorem zp_153_3 {b : Nat} {v : Int} {σ : Nat → Nat → Int} {α lo : Nat → Int → Int} {φ : Nat → Int → UInt32} : zup (zw b σ α lo φ) (b + 153) (some (.inr (8, [.ref (b + 154), .int (zI (σ 153 1)), .int (zI (σ 153 2)), .int (zI v)]))) = zw b (zus σ 153 3 v) α lo φ := zp_o8_3 (k := 153) (by decide) (by decide)
theorem zw_154 {b : Nat} {σ : Nat → Nat → Int} {α lo : Nat → Int → Int} {φ : Nat → Int → UInt32} : zw b σ α lo φ (b + 154) = some (.inl (0, 50, .inl (zAI (α 154)))) := zw_int (k := 154) (by decide) (by decide)
theorem zp_154 {b : Nat} {σ : Nat → Nat → Int} {α lo : Nat → Int → Int} {φ : Nat → Int → UInt32} {G : Int → Int} : zup (zw b σ α lo φ) (b + 154) (some (.inl (0, 50, .inl (zAI G)))) = zw b σ (zup α 154 G) lo φ := zp_int (k := 154) (by decide) (by decide)
theorem zw_155 {b : Nat} {σ : Nat → Nat → Int} {α lo : Nat → Int → Int} {φ : Nat → Int → UInt32} : zw b σ α lo φ (b + 155) = some (.inr (8, [.ref (b + 156), .int (zI (σ 155 1)), .int (zI (σ 155 2)), .int (zI (σ 155 3))])) := zw_o8 (k := 155) (by decide) (by decide)
theorem zp_155_1 {b : Nat} {v : Int} {σ : Nat → Nat → Int} {α lo : Nat → Int → Int} {φ : Nat → Int → UInt32} : zup (zw b σ α lo φ) (b + 155) (some (.inr (8, [.ref (b + 156), .int (zI v), .int (zI (σ 155 2)), .int (zI (σ 155 3))]))) = zw b (zus σ 155 1 v) α lo φ := zp_o8_1 (k := 155) (by decide) (by decide)
theorem zp_155_2 {b : Nat} {v : Int} {σ : Nat → Nat → Int} {α lo : Nat → Int → Int} {φ : Nat → Int → UInt32} : zup (zw b σ α lo φ) (b + 155) (some (.inr (8, [.ref (b + 156), .int (zI (σ 155 1)), .int (zI v), .int (zI (σ 155 3))]))) = zw b (zus σ 155 2 v) α lo φ := zp_o8_2 (k := 155) (by decide) (by decide)
theorem zp_155_3 {b : Nat} {v : Int} {σ : Nat → Nat → Int} {α lo : Nat → Int → Int} {φ : Nat → Int → UInt32} : zup (zw b σ α lo φ) (b + 155) (some (.inr (8, [.ref (b + 156), .int (zI (σ 155 1)), .int (zI (σ 155 2)), .int (zI v)]))) = zw b (zus σ 155 3 v) α lo φ := zp_o8_3 (k := 155) (by decide) (by decide)
theorem zw_156 {b : Nat} {σ : Nat → Nat → Int} {α lo : Nat → Int → Int} {φ : Nat → Int → UInt32} : zw b σ α lo φ (b + 156) = some (.inl (0, 50, .inl (zAI (α 156)))) := zw_int (k := 156) (by decide) (by decide)
theorem zp_156 {b : Nat} {σ : Nat → Nat → Int} {α lo : Nat → Int → Int} {φ : Nat → Int → UInt32} {G : Int → Int} : zup (zw b σ α lo φ) (b + 156) (some (.inl (0, 50, .inl (zAI G)))) = zw b σ (zup α 156 G) lo φ := zp_int (k := 156) (by decide) (by decide)
theorem zw_157 {b : Nat} {σ : Nat → Nat → Int} {α lo : Nat → Int → Int} {φ : Nat → Int → UInt32} : zw b σ α lo φ (b + 157) = some (.inr (8, [.ref (b + 158), .int (zI (σ 157 1)), .int (zI (σ 157 2)), .int (zI (σ 157 3))])) := zw_o8 (k := 157) (by decide) (by decide)
theorem zp_157_1 {b : Nat} {v : Int} {σ : Nat → Nat → Int} {α lo : Nat → Int → Int} {φ : Nat → Int → UInt32} : zup (zw b σ α lo φ) (b + 157) (some (.inr (8, [.ref (b + 158), .int (zI v), .int (zI (σ 157 2)), .int (zI (σ 157 3))]))) = zw b (zus σ 157 1 v) α lo φ := zp_o8_1 (k := 157) (by decide) (by decide)
theorem zp_157_2 {b : Nat} {v : Int} {σ : Nat → Nat → Int} {α lo : Nat → Int → Int} {φ : Nat → Int → UInt32} : zup (zw b σ α lo φ) (b + 157) (some (.inr (8, [.ref (b + 158), .int (zI (σ 157 1)), .int (zI v), .int (zI (σ 157 3))]))) = zw b (zus σ 157 2 v) α lo φ := zp_o8_2 (k := 157) (by decide) (by decide)
theorem zp_157_3 {b : Nat} {v : Int} {σ : Nat → Nat → Int} {α lo : Nat → Int → Int} {φ : Nat → Int → UInt32} : zup (zw b σ α lo φ) (b + 157) (some (.inr (8, [.ref (b + 158), .int (zI (σ 157 1)), .int (zI (σ 157 2)), .int (zI v)]))) = zw b (zus σ 157 3 v) α lo φ := zp_o8_3 (k := 157) (by decide) (by decide)
theorem zw_158 {b : Nat} {σ : Nat → Nat → Int} {α lo : Nat → Int → Int} {φ : Nat → Int → UInt32} : zw b σ α lo φ (b + 158) = some (.inl (0, 50, .inl (zAI (α 158)))) := zw_int (k := 158) (by decide) (by decide)
theorem zp_158 {b : Nat} {σ : Nat → Nat → Int} {α lo : Nat → Int → Int} {φ : Nat → Int → UInt32} {G : Int → Int} : zup (zw b σ α lo φ) (b + 158) (some (.inl (0, 50, .inl (zAI G)))) = zw b σ (zup α 158 G) lo φ := zp_int (k := 158) (by decide) (by decide)
theorem zw_159 {b : Nat} {σ : Nat → Nat → Int} {α lo : Nat → Int → Int} {φ : Nat → Int → UInt32} : zw b σ α lo φ (b + 159) = some (.inr (8, [.ref (b + 160), .int (zI (σ 159 1)), .int (zI (σ 159 2)), .int (zI (σ 159 3))])) := zw_o8 (k := 159) (by decide) (by decide)
theorem zp_159_1 {b : Nat} {v : Int} {σ : Nat → Nat → Int} {α lo : Nat → Int → Int} {φ : Nat → Int → UInt32} : zup (zw b σ α lo φ) (b + 159) (some (.inr (8, [.ref (b + 160), .int (zI v), .int (zI (σ 159 2)), .int (zI (σ 159 3))]))) = zw b (zus σ 159 1 v) α lo φ := zp_o8_1 (k := 159) (by decide) (by decide)
theorem zp_159_2 {b : Nat} {v : Int} {σ : Nat → Nat → Int} {α lo : Nat → Int → Int} {φ : Nat → Int → UInt32} : zup (zw b σ α lo φ) (b + 159) (some (.inr (8, [.ref (b + 160), .int (zI (σ 159 1)), .int (zI v), .int (zI (σ 159 3))]))) = zw b (zus σ 159 2 v) α lo φ := zp_o8_2 (k := 159) (by decide) (by decide)
theorem zp_159_3 {b : Nat} {v : Int} {σ : Nat → Nat → Int} {α lo : Nat → Int → Int} {φ : Nat → Int → UInt32} : zup (zw b σ α lo φ) (b + 159) (some (.inr (8, [.ref (b + 160), .int (zI (σ 159 1)), .int (zI (σ 159 2)), .int (zI v)]))) = zw b (zus σ 159 3 v) α lo φ := zp_o8_3 (k := 159) (by decide) (by decide)
theorem zw_160 {b : Nat} {σ : Nat → Nat → Int} {α lo : Nat → Int → Int} {φ : Nat → Int → UInt32} : zw b σ α lo φ (b + 160) = some (.inl (0, 50, .inl (zAI (α 160)))) := zw_int (k := 160) (by decide) (by decide)
theorem zp_160 {b : Nat} {σ : Nat → Nat → Int} {α lo : Nat → Int → Int} {φ : Nat → Int → UInt32} {G : Int → Int} : zup (zw b σ α lo φ) (b + 160) (some (.inl (0, 50, .inl (zAI G)))) = zw b σ (zup α 160 G) lo φ := zp_int (k := 160) (by decide) (by decide)
theorem zw_161 {b : Nat} {σ : Nat → Nat → Int} {α lo : Nat → Int → Int} {φ : Nat → Int → UInt32} : zw b σ α lo φ (b + 161) = some (.inr (8, [.ref (b + 162), .int (zI (σ 161 1)), .int (zI (σ 161 2)), .int (zI (σ 161 3))])) := zw_o8 (k := 161) (by decide) (by decide)
theorem zp_161_1 {b : Nat} {v : Int} {σ : Nat → Nat → Int} {α lo : Nat → Int → Int} {φ : Nat → Int → UInt32} : zup (zw b σ α lo φ) (b + 161) (some (.inr (8, [.ref (b + 162), .int (zI v), .int (zI (σ 161 2)), .int (zI (σ 161 3))]))) = zw b (zus σ 161 1 v) α lo φ := zp_o8_1 (k := 161) (by decide) (by decide)
theorem zp_161_2 {b : Nat} {v : Int} {σ : Nat → Nat → Int} {α lo : Nat → Int → Int} {φ : Nat → Int → UInt32} : zup (zw b σ α lo φ) (b + 161) (some (.inr (8, [.ref (b + 162), .int (zI (σ 161 1)), .int (zI v), .int (zI (σ 161 3))]))) = zw b (zus σ 161 2 v) α lo φ := zp_o8_2 (k := 161) (by decide) (by decide)
theorem zp_161_3 {b : Nat} {v : Int} {σ : Nat → Nat → Int} {α lo : Nat → Int → Int} {φ : Nat → Int → UInt32} : zup (zw b σ α lo φ) (b + 161) (some (.inr (8, [.ref (b + 162), .int (zI (σ 161 1)), .int (zI (σ 161 2)), .int (zI v)]))) = zw b (zus σ 161 3 v) α lo φ := zp_o8_3 (k := 161) (by decide) (by decide)
theorem zw_162 {b : Nat} {σ : Nat → Nat → Int} {α lo : Nat → Int → Int} {φ : Nat → Int → UInt32} : zw b σ α lo φ (b + 162) = some (.inl (0, 50, .inl (zAI (α 162)))) := zw_int (k := 162) (by decide) (by decide)
theorem zp_162 {b : Nat} {σ : Nat → Nat → Int} {α lo : Nat → Int → Int} {φ : Nat → Int → UInt32} {G : Int → Int} : zup (zw b σ α lo φ) (b + 162) (some (.inl (0, 50, .inl (zAI G)))) = zw b σ (zup α 162 G) lo φ := zp_int (k := 162) (by decide) (by decide)
theorem zw_163 {b : Nat} {σ : Nat → Nat → Int} {α lo : Nat → Int → Int} {φ : Nat → Int → UInt32} : zw b σ α lo φ (b + 163) = some (.inr (8, [.ref (b + 164), .int (zI (σ 163 1)), .int (zI (σ 163 2)), .int (zI (σ 163 3))])) := zw_o8 (k := 163) (by decide) (by decide)
theorem zp_163_1 {b : Nat} {v : Int} {σ : Nat → Nat → Int} {α lo : Nat → Int → Int} {φ : Nat → Int → UInt32} : zup (zw b σ α lo φ) (b + 163) (some (.inr (8, [.ref (b + 164), .int (zI v), .int (zI (σ 163 2)), .int (zI (σ 163 3))]))) = zw b (zus σ 163 1 v) α lo φ := zp_o8_1 (k := 163) (by decide) (by decide)
theorem zp_163_2 {b : Nat} {v : Int} {σ : Nat → Nat → Int} {α lo : Nat → Int → Int} {φ : Nat → Int → UInt32} : zup (zw b σ α lo φ) (b + 163) (some (.inr (8, [.ref (b + 164), .int (zI (σ 163 1)), .int (zI v), .int (zI (σ 163 3))]))) = zw b (zus σ 163 2 v) α lo φ := zp_o8_2 (k := 163) (by decide) (by decide)
theorem zp_163_3 {b : Nat} {v : Int} {σ : Nat → Nat → Int} {α lo : Nat → Int → Int} {φ : Nat → Int → UInt32} : zup (zw b σ α lo φ) (b + 163) (some (.inr (8, [.ref (b + 164), .int (zI (σ 163 1)), .int (zI (σ 163 2)), .int (zI v)]))) = zw b (zus σ 163 3 v) α lo φ := zp_o8_3 (k := 163) (by decide) (by decide)
theorem zw_164 {b : Nat} {σ : Nat → Nat → Int} {α lo : Nat → Int → Int} {φ : Nat → Int → UInt32} : zw b σ α lo φ (b + 164) = some (.inl (0, 50, .inl (zAI (α 164)))) := zw_int (k := 164) (by decide) (by decide)
theorem zp_164 {b : Nat} {σ : Nat → Nat → Int} {α lo : Nat → Int → Int} {φ : Nat → Int → UInt32} {G : Int → Int} : zup (zw b σ α lo φ) (b + 164) (some (.inl (0, 50, .inl (zAI G)))) = zw b σ (zup α 164 G) lo φ := zp_int (k := 164) (by decide) (by decide)
theorem zw_165 {b : Nat} {σ : Nat → Nat → Int} {α lo : Nat → Int → Int} {φ : Nat → Int → UInt32} : zw b σ α lo φ (b + 165) = some (.inr (12, [.ref (b + 166), .ref (b + 167), .int (zI (σ 165 2)), .ref (b + 168), .ref (b + 169), .ref (b + 170), .ref (b + 171), .ref (b + 172), .ref (b + 173), .int (zI (σ 165 9)), .int (zI (σ 165 10)), .int (zI (σ 165 11)), .int (zI (σ 165 12)), .int (zI (σ 165 13)), .int (zI (σ 165 14)), .ref (b + 174), .ref (b + 175), .ref (b + 176), .ref (b + 177), .ref (b + 178), .ref (b + 179)])) := zw_o12 (k := 165) (by decide) (by decide)
theorem zp_165_2 {b : Nat} {v : Int} {σ : Nat → Nat → Int} {α lo : Nat → Int → Int} {φ : Nat → Int → UInt32} : zup (zw b σ α lo φ) (b + 165) (some (.inr (12, [.ref (b + 166), .ref (b + 167), .int (zI v), .ref (b + 168), .ref (b + 169), .ref (b + 170), .ref (b + 171), .ref (b + 172), .ref (b + 173), .int (zI (σ 165 9)), .int (zI (σ 165 10)), .int (zI (σ 165 11)), .int (zI (σ 165 12)), .int (zI (σ 165 13)), .int (zI (σ 165 14)), .ref (b + 174), .ref (b + 175), .ref (b + 176), .ref (b + 177), .ref (b + 178), .ref (b + 179)]))) = zw b (zus σ 165 2 v) α lo φ := zp_o12_2 (k := 165) (by decide) (by decide)
theorem zp_165_9 {b : Nat} {v : Int} {σ : Nat → Nat → Int} {α lo : Nat → Int → Int} {φ : Nat → Int → UInt32} : zup (zw b σ α lo φ) (b + 165) (some (.inr (12, [.ref (b + 166), .ref (b + 167), .int (zI (σ 165 2)), .ref (b + 168), .ref (b + 169), .ref (b + 170), .ref (b + 171), .ref (b + 172), .ref (b + 173), .int (zI v), .int (zI (σ 165 10)), .int (zI (σ 165 11)), .int (zI (σ 165 12)), .int (zI (σ 165 13)), .int (zI (σ 165 14)), .ref (b + 174), .ref (b + 175), .ref (b + 176), .ref (b + 177), .ref (b + 178), .ref (b + 179)]))) = zw b (zus σ 165 9 v) α lo φ := zp_o12_9 (k := 165) (by decide) (by decide)
theorem zp_165_10 {b : Nat} {v : Int} {σ : Nat → Nat → Int} {α lo : Nat → Int → Int} {φ : Nat → Int → UInt32} : zup (zw b σ α lo φ) (b + 165) (some (.inr (12, [.ref (b + 166), .ref (b + 167), .int (zI (σ 165 2)), .ref (b + 168), .ref (b + 169), .ref (b + 170), .ref (b + 171), .ref (b + 172), .ref (b + 173), .int (zI (σ 165 9)), .int (zI v), .int (zI (σ 165 11)), .int (zI (σ 165 12)), .int (zI (σ 165 13)), .int (zI (σ 165 14)), .ref (b + 174), .ref (b + 175), .ref (b + 176), .ref (b + 177), .ref (b + 178), .ref (b + 179)]))) = zw b (zus σ 165 10 v) α lo φ := zp_o12_10 (k := 165) (by decide) (by decide)
theorem zp_165_11 {b : Nat} {v : Int} {σ : Nat → Nat → Int} {α lo : Nat → Int → Int} {φ : Nat → Int → UInt32} : zup (zw b σ α lo φ) (b + 165) (some (.inr (12, [.ref (b + 166), .ref (b + 167), .int (zI (σ 165 2)), .ref (b + 168), .ref (b + 169), .ref (b + 170), .ref (b + 171), .ref (b + 172), .ref (b + 173), .int (zI (σ 165 9)), .int (zI (σ 165 10)), .int (zI v), .int (zI (σ 165 12)), .int (zI (σ 165 13)), .int (zI (σ 165 14)), .ref (b + 174), .ref (b + 175), .ref (b + 176), .ref (b + 177), .ref (b + 178), .ref (b + 179)]))) = zw b (zus σ 165 11 v) α lo φ := zp_o12_11 (k := 165) (by decide) (by decide)
theorem zp_165_12 {b : Nat} {v : Int} {σ : Nat → Nat → Int} {α lo : Nat → Int → Int} {φ : Nat → Int → UInt32} : zup (zw b σ α lo φ) (b + 165) (some (.inr (12, [.ref (b + 166), .ref (b + 167), .int (zI (σ 165 2)), .ref (b + 168), .ref (b + 169), .ref (b + 170), .ref (b + 171), .ref (b + 172), .ref (b + 173), .int (zI (σ 165 9)), .int (zI (σ 165 10)), .int (zI (σ 165 11)), .int (zI v), .int (zI (σ 165 13)), .int (zI (σ 165 14)), .ref (b + 174), .ref (b + 175), .ref (b + 176), .ref (b + 177), .ref (b + 178), .ref (b + 179)]))) = zw b (zus σ 165 12 v) α lo φ := zp_o12_12 (k := 165) (by decide) (by decide)
theorem zp_165_13 {b : Nat} {v : Int} {σ : Nat → Nat → Int} {α lo : Nat → Int → Int} {φ : Nat → Int → UInt32} : zup (zw b σ α lo φ) (b + 165) (some (.inr (12, [.ref (b + 166), .ref (b + 167), .int (zI (σ 165 2)), .ref (b + 168), .ref (b + 169), .ref (b + 170), .ref (b + 171), .ref (b + 172), .ref (b + 173), .int (zI (σ 165 9)), .int (zI (σ 165 10)), .int (zI (σ 165 11)), .int (zI (σ 165 12)), .int (zI v), .int (zI (σ 165 14)), .ref (b + 174), .ref (b + 175), .ref (b + 176), .ref (b + 177), .ref (b + 178), .ref (b + 179)]))) = zw b (zus σ 165 13 v) α lo φ := zp_o12_13 (k := 165) (by decide) (by decide)
theorem zp_165_14 {b : Nat} {v : Int} {σ : Nat → Nat → Int} {α lo : Nat → Int → Int} {φ : Nat → Int → UInt32} : zup (zw b σ α lo φ) (b + 165) (some (.inr (12, [.ref (b + 166), .ref (b + 167), .int (zI (σ 165 2)), .ref (b + 168), .ref (b + 169), .ref (b + 170), .ref (b + 171), .ref (b + 172), .ref (b + 173), .int (zI (σ 165 9)), .int (zI (σ 165 10)), .int (zI (σ 165 11)), .int (zI (σ 165 12)), .int (zI (σ 165 13)), .int (zI v), .ref (b + 174), .ref (b + 175), .ref (b + 176), .ref (b + 177), .ref (b + 178), .ref (b + 179)]))) = zw b (zus σ 165 14 v) α lo φ := zp_o12_14 (k := 165) (by decide) (by decide)
theorem zw_166 {b : Nat} {σ : Nat → Nat → Int} {α lo : Nat → Int → Int} {φ : Nat → Int → UInt32} : zw b σ α lo φ (b + 166) = some (.inl (0, 1550, .inl (zAI (α 166)))) := zw_int (k := 166) (by decide) (by decide)
theorem zp_166 {b : Nat} {σ : Nat → Nat → Int} {α lo : Nat → Int → Int} {φ : Nat → Int → UInt32} {G : Int → Int} : zup (zw b σ α lo φ) (b + 166) (some (.inl (0, 1550, .inl (zAI G)))) = zw b σ (zup α 166 G) lo φ := zp_int (k := 166) (by decide) (by decide)
theorem zw_167 {b : Nat} {σ : Nat → Nat → Int} {α lo : Nat → Int → Int} {φ : Nat → Int → UInt32} : zw b σ α lo φ (b + 167) = some (.inl (0, 1550, .inl (zAI (α 167)))) := zw_int (k := 167) (by decide) (by decide)
theorem zp_167 {b : Nat} {σ : Nat → Nat → Int} {α lo : Nat → Int → Int} {φ : Nat → Int → UInt32} {G : Int → Int} : zup (zw b σ α lo φ) (b + 167) (some (.inl (0, 1550, .inl (zAI G)))) = zw b σ (zup α 167 G) lo φ := zp_int (k := 167) (by decide) (by decide)
theorem zw_168 {b : Nat} {σ : Nat → Nat → Int} {α lo : Nat → Int → Int} {φ : Nat → Int → UInt32} : zw b σ α lo φ (b + 168) = some (.inl (0, 120, .inl (zAI (α 168)))) := zw_int (k := 168) (by decide) (by decide)
theorem zp_168 {b : Nat} {σ : Nat → Nat → Int} {α lo : Nat → Int → Int} {φ : Nat → Int → UInt32} {G : Int → Int} : zup (zw b σ α lo φ) (b + 168) (some (.inl (0, 120, .inl (zAI G)))) = zw b σ (zup α 168 G) lo φ := zp_int (k := 168) (by decide) (by decide)
theorem zw_169 {b : Nat} {σ : Nat → Nat → Int} {α lo : Nat → Int → Int} {φ : Nat → Int → UInt32} : zw b σ α lo φ (b + 169) = some (.inl (0, 640, .inl (zAI (α 169)))) := zw_int (k := 169) (by decide) (by decide)
theorem zp_169 {b : Nat} {σ : Nat → Nat → Int} {α lo : Nat → Int → Int} {φ : Nat → Int → UInt32} {G : Int → Int} : zup (zw b σ α lo φ) (b + 169) (some (.inl (0, 640, .inl (zAI G)))) = zw b σ (zup α 169 G) lo φ := zp_int (k := 169) (by decide) (by decide)
theorem zw_170 {b : Nat} {σ : Nat → Nat → Int} {α lo : Nat → Int → Int} {φ : Nat → Int → UInt32} : zw b σ α lo φ (b + 170) = some (.inl (0, 40, .inl (zAI (α 170)))) := zw_int (k := 170) (by decide) (by decide)
theorem zp_170 {b : Nat} {σ : Nat → Nat → Int} {α lo : Nat → Int → Int} {φ : Nat → Int → UInt32} {G : Int → Int} : zup (zw b σ α lo φ) (b + 170) (some (.inl (0, 40, .inl (zAI G)))) = zw b σ (zup α 170 G) lo φ := zp_int (k := 170) (by decide) (by decide)
theorem zw_171 {b : Nat} {σ : Nat → Nat → Int} {α lo : Nat → Int → Int} {φ : Nat → Int → UInt32} : zw b σ α lo φ (b + 171) = some (.inl (0, 40, .inl (zAI (α 171)))) := zw_int (k := 171) (by decide) (by decide)
theorem zp_171 {b : Nat} {σ : Nat → Nat → Int} {α lo : Nat → Int → Int} {φ : Nat → Int → UInt32} {G : Int → Int} : zup (zw b σ α lo φ) (b + 171) (some (.inl (0, 40, .inl (zAI G)))) = zw b σ (zup α 171 G) lo φ := zp_int (k := 171) (by decide) (by decide)
theorem zw_172 {b : Nat} {σ : Nat → Nat → Int} {α lo : Nat → Int → Int} {φ : Nat → Int → UInt32} : zw b σ α lo φ (b + 172) = some (.inl (0, 40, .inl (zAI (α 172)))) := zw_int (k := 172) (by decide) (by decide)
theorem zp_172 {b : Nat} {σ : Nat → Nat → Int} {α lo : Nat → Int → Int} {φ : Nat → Int → UInt32} {G : Int → Int} : zup (zw b σ α lo φ) (b + 172) (some (.inl (0, 40, .inl (zAI G)))) = zw b σ (zup α 172 G) lo φ := zp_int (k := 172) (by decide) (by decide)
theorem zw_173 {b : Nat} {σ : Nat → Nat → Int} {α lo : Nat → Int → Int} {φ : Nat → Int → UInt32} : zw b σ α lo φ (b + 173) = some (.inl (1, 40, .inr (.inl (zAL (lo 173))))) := zw_lng (k := 173) (by decide) (by decide)
theorem zp_173 {b : Nat} {σ : Nat → Nat → Int} {α lo : Nat → Int → Int} {φ : Nat → Int → UInt32} {G : Int → Int} : zup (zw b σ α lo φ) (b + 173) (some (.inl (1, 40, .inr (.inl (zAL G))))) = zw b σ α (zup lo 173 G) φ := zp_lng (k := 173) (by decide) (by decide)
theorem zw_174 {b : Nat} {σ : Nat → Nat → Int} {α lo : Nat → Int → Int} {φ : Nat → Int → UInt32} : zw b σ α lo φ (b + 174) = some (.inl (2, 40, .inr (.inr (.inl (zAF (φ 174)))))) := zw_flt (k := 174) (by decide) (by decide)
theorem zp_174 {b : Nat} {σ : Nat → Nat → Int} {α lo : Nat → Int → Int} {φ : Nat → Int → UInt32} {G : Int → UInt32} : zup (zw b σ α lo φ) (b + 174) (some (.inl (2, 40, .inr (.inr (.inl (zAF G)))))) = zw b σ α lo (zup φ 174 G) := zp_flt (k := 174) (by decide) (by decide)
theorem zw_175 {b : Nat} {σ : Nat → Nat → Int} {α lo : Nat → Int → Int} {φ : Nat → Int → UInt32} : zw b σ α lo φ (b + 175) = some (.inl (2, 8, .inr (.inr (.inl (zAF (φ 175)))))) := zw_flt (k := 175) (by decide) (by decide)
theorem zp_175 {b : Nat} {σ : Nat → Nat → Int} {α lo : Nat → Int → Int} {φ : Nat → Int → UInt32} {G : Int → UInt32} : zup (zw b σ α lo φ) (b + 175) (some (.inl (2, 8, .inr (.inr (.inl (zAF G)))))) = zw b σ α lo (zup φ 175 G) := zp_flt (k := 175) (by decide) (by decide)
theorem zw_176 {b : Nat} {σ : Nat → Nat → Int} {α lo : Nat → Int → Int} {φ : Nat → Int → UInt32} : zw b σ α lo φ (b + 176) = some (.inl (0, 6, .inl (zAI (α 176)))) := zw_int (k := 176) (by decide) (by decide)
theorem zp_176 {b : Nat} {σ : Nat → Nat → Int} {α lo : Nat → Int → Int} {φ : Nat → Int → UInt32} {G : Int → Int} : zup (zw b σ α lo φ) (b + 176) (some (.inl (0, 6, .inl (zAI G)))) = zw b σ (zup α 176 G) lo φ := zp_int (k := 176) (by decide) (by decide)
theorem zw_177 {b : Nat} {σ : Nat → Nat → Int} {α lo : Nat → Int → Int} {φ : Nat → Int → UInt32} : zw b σ α lo φ (b + 177) = some (.inl (0, 6, .inl (zAI (α 177)))) := zw_int (k := 177) (by decide) (by decide)
theorem zp_177 {b : Nat} {σ : Nat → Nat → Int} {α lo : Nat → Int → Int} {φ : Nat → Int → UInt32} {G : Int → Int} : zup (zw b σ α lo φ) (b + 177) (some (.inl (0, 6, .inl (zAI G)))) = zw b σ (zup α 177 G) lo φ := zp_int (k := 177) (by decide) (by decide)
theorem zw_178 {b : Nat} {σ : Nat → Nat → Int} {α lo : Nat → Int → Int} {φ : Nat → Int → UInt32} : zw b σ α lo φ (b + 178) = some (.inl (0, 300, .inl (zAI (α 178)))) := zw_int (k := 178) (by decide) (by decide)
theorem zp_178 {b : Nat} {σ : Nat → Nat → Int} {α lo : Nat → Int → Int} {φ : Nat → Int → UInt32} {G : Int → Int} : zup (zw b σ α lo φ) (b + 178) (some (.inl (0, 300, .inl (zAI G)))) = zw b σ (zup α 178 G) lo φ := zp_int (k := 178) (by decide) (by decide)
theorem zw_179 {b : Nat} {σ : Nat → Nat → Int} {α lo : Nat → Int → Int} {φ : Nat → Int → UInt32} : zw b σ α lo φ (b + 179) = some (.inl (0, 50, .inl (zAI (α 179)))) := zw_int (k := 179) (by decide) (by decide)
theorem zp_179 {b : Nat} {σ : Nat → Nat → Int} {α lo : Nat → Int → Int} {φ : Nat → Int → UInt32} {G : Int → Int} : zup (zw b σ α lo φ) (b + 179) (some (.inl (0, 50, .inl (zAI G)))) = zw b σ (zup α 179 G) lo φ := zp_int (k := 179) (by decide) (by decide)
