/-! ===== THE RELATION between the class's cells and the reference's ===== -/
/-- the counts: notes, made, orders -/
def zRC (S : Int → Int) (c m o : Int) : Prop := S 0 = c ∧ S 1 = m ∧ S 2 = o ∧ (0 ≤ c ∧ c ≤ 40) ∧ (0 ≤ m ∧ m ≤ 30) ∧ (0 ≤ o ∧ o ≤ 30)
/-- the notes: names, families, strengths, lastings -/
def zRN (S : Int → Int) (c : Int) (N F H L : Int → Int) : Prop := ∀ n : Int, 0 ≤ n → n < c → N n = zmn S n ∧ (∀ k : Int, 0 ≤ k → k < 7 → zlo (S (10 + 11 * n + k))) ∧ S (10 + 11 * n) ≠ 0 ∧ (∀ k : Int, 0 ≤ k → k < 6 → S (10 + 11 * n + k) = 0 → S (10 + 11 * n + k + 1) = 0) ∧ (F n = S (10 + 11 * n + 7) ∧ 0 ≤ F n ∧ F n ≤ 7) ∧ (H n = S (10 + 11 * n + 8) ∧ 1 ≤ H n ∧ H n ≤ 9999) ∧ (L n = S (10 + 11 * n + 9) ∧ 1 ≤ L n ∧ L n ≤ 999)
/-- the stock -/
def zRS (S : Int → Int) (c : Int) (T : Int → Int) : Prop := (∀ n : Int, 0 ≤ n → n < c → T n = S (10 + 11 * n + 10)) ∧ (∀ n : Int, 0 ≤ n → n < 40 → 0 ≤ T n ∧ T n ≤ 99999) ∧ ∀ n : Int, c ≤ n → n < 40 → T n = 0
/-- the drops of mixture k -/
def zRD (S : Int → Int) (c : Int) (k : Int) (D : Int → Int) (A : Int) : Prop := (∀ n : Int, 0 ≤ n → n < c → D n = S (450 + 40 * k + n)) ∧ (∀ n : Int, 0 ≤ n → n < 40 → 0 ≤ D n ∧ D n ≤ 9999) ∧ (∀ n : Int, c ≤ n → n < 40 → D n = 0) ∧ A = zsm D 40
/-- the limits -/
def zRL (S : Int → Int) (G : Int → Int) : Prop := ∀ f : Int, 0 ≤ f → f < 8 → G f = S (1330 + f) ∧ 0 ≤ G f ∧ G f ≤ 1000
/-- the book -/
def zRB (S : Int → Int) (m : Int) (P T Q : Int → Int) : Prop := ∀ i : Int, 0 ≤ i → i < m → P i = S (1340 + 3 * i) ∧ T i = S (1340 + 3 * i + 1) ∧ Q i = S (1340 + 3 * i + 2)
/-- the orders -/
def zRO (S : Int → Int) (o : Int) (P T U V : Int → Int) : Prop := ∀ i : Int, 0 ≤ i → i < o → (P i = S (1430 + 4 * i) ∧ 0 ≤ P i ∧ P i ≤ 15) ∧ (T i = S (1430 + 4 * i + 1) ∧ 1 ≤ T i ∧ T i ≤ 99) ∧ (U i = S (1430 + 4 * i + 2) ∧ 0 ≤ U i ∧ U i ≤ 9) ∧ (V i = S (1430 + 4 * i + 3) ∧ 0 ≤ V i ∧ V i ≤ 2)
/-- no two notes have one name -/
def zRX (c : Int) (N : Int → Int) : Prop := ∀ n m : Int, 0 ≤ n → n < m → m < c → N n ≠ N m
/-- what is held, at place h of the class and place s of the reference -/
def zRH (σ : Nat → Nat → Int) (α lo : Nat → Int → Int) (h s : Nat) : Prop :=
  (zRC (α s) (σ (h + 1) 5) (σ (h + 8) 5) (σ (h + 14) 5)) ∧
  (zRN (α s) (σ (h + 1) 5) (lo (h + 2)) (α (h + 3)) (α (h + 4)) (α (h + 5))) ∧
  (zRS (α s) (σ (h + 1) 5) (α (h + 10))) ∧
  (∀ k : Nat, k < 22 → zRD (α s) (σ (h + 1) 5) k (α (h + 21 + 2 * k)) (σ (h + 20 + 2 * k) 1)) ∧
  (zRL (α s) (α (h + 9))) ∧
  (zRB (α s) (σ (h + 8) 5) (α (h + 11)) (α (h + 12)) (α (h + 13))) ∧
  (zRO (α s) (σ (h + 14) 5) (α (h + 15)) (α (h + 16)) (α (h + 17)) (α (h + 18))) ∧
  (zRX (σ (h + 1) 5) (lo (h + 2)))
theorem zRH_cnt {σ : Nat → Nat → Int} {α lo : Nat → Int → Int} {h s : Nat} (H : zRH σ α lo h s) : zRC (α s) (σ (h + 1) 5) (σ (h + 8) 5) (σ (h + 14) 5) := H.1
theorem zRH_note {σ : Nat → Nat → Int} {α lo : Nat → Int → Int} {h s : Nat} (H : zRH σ α lo h s) : zRN (α s) (σ (h + 1) 5) (lo (h + 2)) (α (h + 3)) (α (h + 4)) (α (h + 5)) := H.2.1
theorem zRH_stock {σ : Nat → Nat → Int} {α lo : Nat → Int → Int} {h s : Nat} (H : zRH σ α lo h s) : zRS (α s) (σ (h + 1) 5) (α (h + 10)) := H.2.2.1
theorem zRH_drops {σ : Nat → Nat → Int} {α lo : Nat → Int → Int} {h s : Nat} (H : zRH σ α lo h s) : ∀ k : Nat, k < 22 → zRD (α s) (σ (h + 1) 5) k (α (h + 21 + 2 * k)) (σ (h + 20 + 2 * k) 1) := H.2.2.2.1
theorem zRH_limit {σ : Nat → Nat → Int} {α lo : Nat → Int → Int} {h s : Nat} (H : zRH σ α lo h s) : zRL (α s) (α (h + 9)) := H.2.2.2.2.1
theorem zRH_book {σ : Nat → Nat → Int} {α lo : Nat → Int → Int} {h s : Nat} (H : zRH σ α lo h s) : zRB (α s) (σ (h + 8) 5) (α (h + 11)) (α (h + 12)) (α (h + 13)) := H.2.2.2.2.2.1
theorem zRH_order {σ : Nat → Nat → Int} {α lo : Nat → Int → Int} {h s : Nat} (H : zRH σ α lo h s) : zRO (α s) (σ (h + 14) 5) (α (h + 15)) (α (h + 16)) (α (h + 17)) (α (h + 18)) := H.2.2.2.2.2.2.1
theorem zRH_diff {σ : Nat → Nat → Int} {α lo : Nat → Int → Int} {h s : Nat} (H : zRH σ α lo h s) : zRX (σ (h + 1) 5) (lo (h + 2)) := H.2.2.2.2.2.2.2
/-- a text: n signs are the same -/
def zRT (T U : Int → Int) (n m q : Int) : Prop := n = m ∧ 0 ≤ n ∧ n ≤ q ∧ ∀ i : Int, 0 ≤ i → i < n → T i = U i ∧ 0 ≤ T i ∧ T i ≤ 127
/-- a row r -/
def zRR (I : Int → Int) (t so si : Int) (SO SI C : Int → Int) (r : Int) : Prop := (t = if 0 ≤ SO r then 1 else 0) ∧ (0 ≤ SO r → so = SO r ∧ SO r ≤ 2 ∧ si = SI r ∧ 0 ≤ si ∧ si ≤ 50 ∧ ∀ i : Int, 0 ≤ i → i < si → I i = C (50 * r + i))
def zQR (σ : Nat → Nat → Int) (α lo : Nat → Int → Int) : Prop :=
  (zRH σ α lo 1 166) ∧
  (σ 0 2 = 1 → zRH σ α lo 65 167) ∧
  (σ 0 2 = σ 165 2 ∧ (σ 0 2 = 0 ∨ σ 0 2 = 1)) ∧
  (zRT (α 130) (α 168) (σ 129 1) (σ 165 9) 120) ∧
  (zRT (α 132) (α 169) (σ 131 1) (σ 165 10) 520) ∧
  (∀ r : Nat, r < 6 → zRR (α (154 + 2 * r)) (σ (153 + 2 * r) 1) (σ (153 + 2 * r) 2) (σ (153 + 2 * r) 3) (α 176) (α 177) (α 178) r) ∧
  (∀ k j, zr (α k j)) ∧
  (∀ n, 0 ≤ lo 3 n ∧ lo 3 n < 34359738368) ∧
  (∀ n, 0 ≤ lo 67 n ∧ lo 67 n < 34359738368)
theorem zQR_now {σ : Nat → Nat → Int} {α lo : Nat → Int → Int} (H : zQR σ α lo) : zRH σ α lo 1 166 := H.1
theorem zQR_kept {σ : Nat → Nat → Int} {α lo : Nat → Int → Int} (H : zQR σ α lo) : σ 0 2 = 1 → zRH σ α lo 65 167 := H.2.1
theorem zQR_isKept {σ : Nat → Nat → Int} {α lo : Nat → Int → Int} (H : zQR σ α lo) : σ 0 2 = σ 165 2 ∧ (σ 0 2 = 0 ∨ σ 0 2 = 1) := H.2.2.1
theorem zQR_tape {σ : Nat → Nat → Int} {α lo : Nat → Int → Int} (H : zQR σ α lo) : zRT (α 130) (α 168) (σ 129 1) (σ 165 9) 120 := H.2.2.2.1
theorem zQR_paper {σ : Nat → Nat → Int} {α lo : Nat → Int → Int} (H : zQR σ α lo) : zRT (α 132) (α 169) (σ 131 1) (σ 165 10) 520 := H.2.2.2.2.1
theorem zQR_row {σ : Nat → Nat → Int} {α lo : Nat → Int → Int} (H : zQR σ α lo) : ∀ r : Nat, r < 6 → zRR (α (154 + 2 * r)) (σ (153 + 2 * r) 1) (σ (153 + 2 * r) 2) (σ (153 + 2 * r) 3) (α 176) (α 177) (α 178) r := H.2.2.2.2.2.1
theorem zQR_rng {σ : Nat → Nat → Int} {α lo : Nat → Int → Int} (H : zQR σ α lo) : ∀ k j, zr (α k j) := H.2.2.2.2.2.2.1
theorem zQR_lng {σ : Nat → Nat → Int} {α lo : Nat → Int → Int} (H : zQR σ α lo) : ∀ n, 0 ≤ lo 3 n ∧ lo 3 n < 34359738368 := H.2.2.2.2.2.2.2.1
theorem zQR_lnk {σ : Nat → Nat → Int} {α lo : Nat → Int → Int} (H : zQR σ α lo) : ∀ n, 0 ≤ lo 67 n ∧ lo 67 n < 34359738368 := H.2.2.2.2.2.2.2.2
/-- one call of the class, then the reference: the same answer, and the relation is kept -/
def zOK (d b kc km : Nat) (args : List Value) (σ : Nat → Nat → Int) (α lo : Nat → Int → Int) (φ : Nat → Int → UInt32) : Prop := ∃ (r : Value) (σ1 : Nat → Nat → Int) (α1 lo1 : Nat → Int → Int) (φ1 : Nat → Int → UInt32) (σ2 : Nat → Nat → Int) (α2 lo2 : Nat → Int → Int) (φ2 : Nat → Int → UInt32), (∀ z, zcall (d + 20) kc (.ref b :: args) (z, zw b σ α lo φ) = some (some r, (z, zw b σ1 α1 lo1 φ1))) ∧ (∀ z, zcall (d + 20) km (.ref (b + 165) :: args) (z, zw b σ1 α1 lo1 φ1) = some (some r, (z, zw b σ2 α2 lo2 φ2))) ∧ zQR σ2 α2 lo2
section REL
variable {S S' : Int → Int} {c m o v : Int}
theorem zRC_u (h : zRC S c m o) (e0 : S' 0 = S 0) (e1 : S' 1 = S 1) (e2 : S' 2 = S 2) : zRC S' c m o := by
  unfold zRC at *
  rw [e0, e1, e2]
  exact h
theorem zmn_u {n : Int} (e : ∀ k : Int, 0 ≤ k → k < 7 → S' (10 + 11 * n + k) = S (10 + 11 * n + k)) : zmn S' n = zmn S n := zcd_eq (fun k hk => e k (by omega) (by omega))
theorem zRN_u {N F H L : Int → Int} (h : zRN S c N F H L) (e : ∀ n k : Int, 0 ≤ n → n < c → 0 ≤ k → k < 10 → S' (10 + 11 * n + k) = S (10 + 11 * n + k)) : zRN S' c N F H L := by
  intro n h0 h1
  obtain ⟨a1, a2, a3, a4, a5, a6, a7⟩ := h n h0 h1
  have e' := fun k hk0 hk1 => e n k h0 h1 hk0 hk1
  have e0 := e' 0 (by decide) (by decide)
  rw [Int.add_zero] at e0
  refine ⟨?_, fun k k0 k1 => ?_, ?_, fun k k0 k1 => ?_, ?_, ?_, ?_⟩
  · rw [a1, zmn_u (fun k k0 k1 => e' k k0 (by omega))]
  · rw [e' k k0 (by omega)]; exact a2 k k0 k1
  · rw [e0]; exact a3
  · rw [e' k k0 (by omega), show 10 + 11 * n + k + 1 = 10 + 11 * n + (k + 1) by omega, e' (k + 1) (by omega) (by omega), ← show 10 + 11 * n + k + 1 = 10 + 11 * n + (k + 1) by omega]; exact a4 k k0 k1
  · rw [e' 7 (by decide) (by decide)]; exact a5
  · rw [e' 8 (by decide) (by decide)]; exact a6
  · rw [e' 9 (by decide) (by decide)]; exact a7
theorem zRS_u {T : Int → Int} (h : zRS S c T) (e : ∀ n : Int, 0 ≤ n → n < c → S' (10 + 11 * n + 10) = S (10 + 11 * n + 10)) : zRS S' c T := ⟨fun n h0 h1 => by rw [e n h0 h1]; exact h.1 n h0 h1, h.2⟩
theorem zRD_u {k : Int} {D : Int → Int} {A : Int} (h : zRD S c k D A) (e : ∀ n : Int, 0 ≤ n → n < c → S' (450 + 40 * k + n) = S (450 + 40 * k + n)) : zRD S' c k D A := ⟨fun n h0 h1 => by rw [e n h0 h1]; exact h.1 n h0 h1, h.2⟩
theorem zRL_u {G : Int → Int} (h : zRL S G) (e : ∀ f : Int, 0 ≤ f → f < 8 → S' (1330 + f) = S (1330 + f)) : zRL S' G := fun f h0 h1 => by rw [e f h0 h1]; exact h f h0 h1
theorem zRB_u {P T Q : Int → Int} (h : zRB S m P T Q) (e : ∀ j : Int, 1340 ≤ j → j < 1340 + 3 * m → S' j = S j) : zRB S' m P T Q := fun i h0 h1 => by rw [e _ (by omega) (by omega), e _ (by omega) (by omega), e _ (by omega) (by omega)]; exact h i h0 h1
theorem zRO_u {P T U V : Int → Int} (h : zRO S o P T U V) (e : ∀ j : Int, 1430 ≤ j → j < 1430 + 4 * o → S' j = S j) : zRO S' o P T U V := fun i h0 h1 => by rw [e _ (by omega) (by omega), e _ (by omega) (by omega), e _ (by omega) (by omega), e _ (by omega) (by omega)]; exact h i h0 h1
theorem zr_ui {G : Int → Int} {k : Int} (h : ∀ j, zr (G j)) (hv : zr v) : ∀ j, zr (zui G k v j) := by
  intro j
  unfold zui
  split
  · exact hv
  · exact h j
theorem zr_up {α : Nat → Int → Int} {k : Nat} {G : Int → Int} (h : ∀ k j, zr (α k j)) (hG : ∀ j, zr (G j)) : ∀ i j, zr (zup α k G i j) := by
  intro i j
  unfold zup
  split
  · exact hG j
  · exact h i j
end REL
