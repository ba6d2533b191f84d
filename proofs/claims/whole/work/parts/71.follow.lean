/-! ===== the public calls: recipe, accord ===== -/
theorem zp_rl {b : Nat} {σ : Nat → Nat → Int} {α lo : Nat → Int → Int} {φ : Nat → Int → UInt32} {a f p e a' f' p' e' v : Int} : zup (zw b (zrs σ a f p e) α lo φ) (b + 165) (some (.inr (12, [.ref (b + 166), .ref (b + 167), .int (zI (σ 165 2)), .ref (b + 168), .ref (b + 169), .ref (b + 170), .ref (b + 171), .ref (b + 172), .ref (b + 173), .int (zI v), .int (zI (σ 165 10)), .int (zI a'), .int (zI f'), .int (zI p'), .int (zI e'), .ref (b + 174), .ref (b + 175), .ref (b + 176), .ref (b + 177), .ref (b + 178), .ref (b + 179)]))) = zw b (zrs (zus σ 165 9 v) a' f' p' e') α lo φ :=
  zw_put (k := 165) (by decide) (by
    rw [zcell, show zlay 165 = (22, 0) by decide]
    show _ = (Sum.inr (12, zflds b 165 (zrs (zus σ 165 9 v) a' f' p' e') 12) : zC)
    simp [zflds, zrs, zus]) (fun j _ hj => zcell_same (by funext i; rw [zrs_o (Or.inl hj), zrs_o (Or.inl hj), zus_ne (Or.inl hj)]) rfl rfl rfl)
section FOLLOW
variable {d b : Nat} {z : Nat × Nat} {σ : Nat → Nat → Int} {α lo : Nat → Int → Int} {φ : Nat → Int → UInt32}
theorem zQR_fin {σF : Nat → Nat → Int} {αF loF : Nat → Int → Int} {k : Nat} (H : zQR σ α lo) (hk : k < 22) (ha : ∀ j, zfb j ∨ j = 130 ∨ j = 168 → j ≠ 8 + 13 + 2 * k + 1 → j ≠ 166 → αF j = α j) (hs : ∀ i j, zft i j ∨ (i = 129 ∧ j = 1) ∨ (i = 165 ∧ j = 9) → ¬ (i = 8 + 13 + 2 * k ∧ j = 1) → σF i j = σ i j) (hD : zRD (αF 166) (σ 2 5) k (αF (8 + 13 + 2 * k + 1)) (σF (8 + 13 + 2 * k) 1)) (hR : ∀ j, ¬ (450 + 40 * (k : Int) ≤ j ∧ j < 450 + 40 * (k : Int) + 40) → αF 166 j = α 166 j) (hz : ∀ k j, zr (αF k j)) (h3 : loF 3 = lo 3) (h67 : loF 67 = lo 67) : zQR σF αF loF := by
  have H1 : zQR (zus σF (8 + 13 + 2 * k) 1 (σ (8 + 13 + 2 * k) 1)) (zup (zup αF (8 + 13 + 2 * k + 1) (α (8 + 13 + 2 * k + 1))) 166 (α 166)) lo := by
    refine zQR_s H (fun j hj => ?_) (fun i j hi => ?_) (zr_up (zr_up hz (zQR_rng H _)) (zQR_rng H _))
    · by_cases e1 : j = 166
      · rw [e1, zup_eq]
      · rw [zup_ne e1]
        by_cases e2 : j = 8 + 13 + 2 * k + 1
        · rw [e2, zup_eq]
        · rw [zup_ne e2]
          exact ha j hj e2 e1
    · by_cases e : i = 8 + 13 + 2 * k ∧ j = 1
      · rw [e.1, e.2, zus_eq]
      · rw [zus_ne (by omega)]
        exact hs i j hi e
  have h25 : zus σF (8 + 13 + 2 * k) 1 (σ (8 + 13 + 2 * k) 1) 2 5 = σ 2 5 := by
    rw [zus_ne (by omega)]
    exact hs 2 5 (by unfold zft; omega) (by omega)
  have H2 := zQR_D (A' := σF (8 + 13 + 2 * k) 1) (D' := αF (8 + 13 + 2 * k + 1)) (R := αF 166) H1 hk (by rw [h25]; exact hD) (fun j hj => by rw [zup_eq]; exact hR j hj) (hz _) (hz _)
  rw [zus_zus, zus_id rfl, zup_c1 (i := 166) (j := 8 + 13 + 2 * k + 1) (by omega), zup_up, zup_up, zup_id (f := αF) rfl, zup_id (f := αF) rfl] at H2
  exact zQR_lo H2 h3 h67
theorem zfol_C (H : zQR σ α lo) : ∃ (C : Int → Int) (nt : Int → Nat → Int), zCt σ α C ∧ zNt σ α lo C nt ∧ zCr σ α C ∧ zNr σ α nt := by
  obtain ⟨c0, c1, c2, c3, c4, c5⟩ := zQ_cnt H
  obtain ⟨t1, t2, t3, t4⟩ := zQR_tape H
  have hl := zQ_note H
  obtain ⟨C, hC⟩ : ∃ C : Int → Int, C = fun i => if 0 ≤ i ∧ i < σ 129 1 then α 130 i else 0 := ⟨_, rfl⟩
  have hCi : ∀ i, C i = if 0 ≤ i ∧ i < σ 129 1 then α 130 i else 0 := fun i => by rw [hC]
  have hCb : ∀ i, 0 ≤ C i ∧ C i ≤ 127 := fun i => by
    rw [hCi]
    split
    · rename_i q
      exact (t4 i q.1 q.2).2
    · decide
  obtain ⟨nt, hnt⟩ : ∃ nt : Int → Nat → Int, nt = fun a m => zfst (fun n => zhasb (α 166) (α 168) a m n) (fun n => (n : Int)) (-5) (α 166 0).toNat 0 := ⟨_, rfl⟩
  have hnti : ∀ a m, nt a m = zfst (fun n => zhasb (α 166) (α 168) a m n) (fun n => (n : Int)) (-5) (α 166 0).toNat 0 := fun a m => by rw [hnt]
  refine ⟨C, nt, ⟨⟨t2, t3⟩, hCi, hCb⟩, ⟨fun a m => ?_, fun a m a0 am m0 hlt => ⟨fun h7 => ?_, fun h7 => ?_⟩⟩, ⟨⟨by omega, by omega⟩, fun i i0 i1 => ?_, fun i hi => ?_, hCb, zQR_rng H 168⟩, ⟨by omega, zQR_rng H 166, hnti⟩⟩
  · rw [hnti]
    have := zfst_b (r0 := -5) (p := fun n => zhasb (α 166) (α 168) a m n) (α 166 0).toNat 0
    omega
  · rw [hnti]
    refine zfst_no _ 0 (fun j x y => ?_)
    cases e : zhasb (α 166) (α 168) a m j with
    | true =>
      have h1 := (zhasb_iff.1 e).1
      have h2 : znl (α 166) j ≤ 7 := zfst_le 7 0
      omega
    | false => rfl
  · rw [hnti, c0]
    refine zfst_c _ 0 (fun j x y => ?_)
    obtain ⟨n1, n2, n3, n4, n5⟩ := hl j (by omega) (by omega)
    have ht8 : ∀ k : Nat, k < m → 97 ≤ α 168 (a + k) ∧ α 168 (a + k) ≤ 122 ∧ α 130 (a + k) = α 168 (a + k) := fun k hk => by
      have h1 := hlt k hk
      rw [hCi, if_pos (by omega)] at h1
      have h2 := (t4 (a + k) (by omega) (by omega)).1
      rw [← h2]
      exact ⟨h1.1, h1.2, rfl⟩
    have hi := zhas_w (A := α 166) (T := fun j => α 168 (a + j)) (n := j) (m := m) ⟨m0, h7⟩ n2 n4 (fun k hk q => by
      have := ht8 k (by omega)
      exact ⟨this.1, this.2.1⟩)
    have ew : zhn (zwd (α 130) a m) 7 = zhn (zwd (fun j => α 168 (a + j)) 0 m) 7 := zhn_eq 7 (fun k hk => by
      unfold zwd
      by_cases q : (k : Int) < m
      · rw [if_pos q, if_pos q, Int.zero_add, (ht8 k (by omega)).2.2]
      · rw [if_neg q, if_neg q])
    have hz0 : zhas (α 166) (fun j => α 168 (a + j)) 0 m j ↔ zhas (α 166) (α 168) a m j := by
      unfold zhas
      constructor
      · rintro ⟨h1, h2⟩
        exact ⟨h1, fun k hk => by have := h2 k hk; rw [Int.zero_add] at this; exact this⟩
      · rintro ⟨h1, h2⟩
        exact ⟨h1, fun k hk => by rw [Int.zero_add]; exact h2 k hk⟩
    rw [hz0, ← ew, ← n1] at hi
    by_cases q : lo 3 j = zhn (zwd (α 130) a m) 7
    · rw [decide_eq_true q]
      exact (zhasb_iff.2 (hi.2 q)).symm
    · rw [decide_eq_false q]
      cases e : zhasb (α 166) (α 168) a m j with
      | true => exact absurd (hi.1 (zhasb_iff.1 e)) q
      | false => rfl
  · rw [hCi, if_pos (by omega)]
    exact ((t4 i i0 (by omega)).1).symm
  · rw [hCi, if_neg (by omega)]
end FOLLOW
