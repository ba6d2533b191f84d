/-! ===== shares by the largest rests ===== -/
/-- the first of the greatest among the first m -/
def zbi (r : Int → Int) : Nat → Nat
  | 0 => 0
  | m + 1 => if r (zbi r m) < r m then m else zbi r m
theorem zbi_1 {r : Int → Int} : zbi r 1 = 0 := by
  show (if r ((0 : Nat) : Int) < r ((0 : Nat) : Int) then 0 else 0) = 0
  split <;> rfl
theorem zbi_lt {r : Int → Int} : ∀ m : Nat, zbi r (m + 1) < m + 1 := by
  intro m
  induction m with
  | zero => rw [zbi_1]; decide
  | succ m ih =>
    rw [zbi]
    split <;> omega
theorem zbi_max {r : Int → Int} : ∀ m i : Nat, i < m → r i ≤ r (zbi r m) := by
  intro m
  induction m with
  | zero => intro i h; omega
  | succ m ih =>
    intro i h
    rw [zbi]
    by_cases q : r (zbi r m) < r m
    · rw [if_pos q]
      by_cases e : i = m
      · rw [e]; exact Int.le_refl _
      · have := ih i (by omega)
        omega
    · rw [if_neg q]
      by_cases e : i = m
      · rw [e]; omega
      · exact ih i (by omega)
theorem zbi_ext {r : Int → Int} {c : Nat} : ∀ m : Nat, (∀ i : Nat, c ≤ i → i < c + m → r i ≤ r (zbi r c)) → zbi r (c + m) = zbi r c := by
  intro m
  induction m with
  | zero => intro _; rfl
  | succ m ih =>
    intro h
    have e := ih (fun i a b => h i a (by omega))
    show (if r (zbi r (c + m)) < r ((c + m : Nat) : Int) then c + m else zbi r (c + m)) = zbi r c
    rw [e, if_neg (by have := h (c + m) (by omega) (by omega); omega)]
theorem zbi_c {r s : Int → Int} : ∀ m : Nat, (∀ i : Nat, i < m → r i = s i) → zbi r m = zbi s m := by
  intro m
  induction m with
  | zero => intro _; rfl
  | succ m ih =>
    intro h
    have e := ih (fun i hi => h i (by omega))
    have hb : zbi s m < m + 1 := by
      cases m with
      | zero => show 0 < 1; decide
      | succ m => have := zbi_lt (r := s) m; omega
    rw [zbi, zbi, e, h m (by omega), h (zbi s m) hb]
/-- one more to the greatest rest, q times -/
def zgv (c : Nat) (s : (Int → Int) × (Int → Int)) : Nat → (Int → Int) × (Int → Int)
  | 0 => s
  | q + 1 => (zui (zgv c s q).1 (zbi (zgv c s q).2 c) ((zgv c s q).1 (zbi (zgv c s q).2 c) + 1), zui (zgv c s q).2 (zbi (zgv c s q).2 c) (-1))
theorem zgv_c {c : Nat} (hc : 0 < c) {s t : (Int → Int) × (Int → Int)} (h : ∀ i : Nat, i < c → s.1 i = t.1 i ∧ s.2 i = t.2 i) : ∀ q (i : Nat), i < c → (zgv c s q).1 i = (zgv c t q).1 i ∧ (zgv c s q).2 i = (zgv c t q).2 i := by
  intro q
  induction q with
  | zero => exact h
  | succ q ih =>
    intro i hi
    have e := zbi_c (r := (zgv c s q).2) (s := (zgv c t q).2) c (fun i hi => (ih i hi).2)
    have hb : zbi (zgv c t q).2 c < c := by
      obtain ⟨m, rfl⟩ : ∃ m, c = m + 1 := ⟨c - 1, by omega⟩
      exact zbi_lt m
    rw [zgv, zgv, e]
    obtain ⟨b1, b2⟩ := ih _ hb
    by_cases q1 : (i : Int) = (zbi (zgv c t q).2 c : Nat)
    · show zui _ _ _ (i : Int) = zui _ _ _ (i : Int) ∧ zui _ _ _ (i : Int) = zui _ _ _ (i : Int)
      rw [q1, zui_eq, zui_eq, zui_eq, zui_eq, b1]
      exact ⟨rfl, rfl⟩
    · show zui _ _ _ (i : Int) = zui _ _ _ (i : Int) ∧ zui _ _ _ (i : Int) = zui _ _ _ (i : Int)
      rw [zui_ne q1, zui_ne q1, zui_ne q1, zui_ne q1]
      exact ih i hi
theorem zgv_o {c : Nat} (hc : 0 < c) {s : (Int → Int) × (Int → Int)} : ∀ q (j : Int), j < 0 ∨ c ≤ j → (zgv c s q).1 j = s.1 j ∧ (zgv c s q).2 j = s.2 j := by
  intro q
  induction q with
  | zero => intro j _; exact ⟨rfl, rfl⟩
  | succ q ih =>
    intro j hj
    have hb : zbi (zgv c s q).2 c < c := by
      obtain ⟨m, rfl⟩ : ∃ m, c = m + 1 := ⟨c - 1, by omega⟩
      exact zbi_lt m
    rw [zgv]
    show zui _ _ _ j = _ ∧ zui _ _ _ j = _
    rw [zui_ne (by omega), zui_ne (by omega)]
    exact ih j hj
theorem zgv_z {c : Nat} {s : (Int → Int) × (Int → Int)} (h1 : ∀ j, 0 ≤ j → j < 40 → 0 ≤ s.1 j) (hc : 0 < c ∧ c ≤ 40) : ∀ q j, 0 ≤ j → j < 40 → 0 ≤ (zgv c s q).1 j := by
  intro q
  induction q with
  | zero => exact h1
  | succ q ih =>
    intro j a e
    rw [zgv]
    have hb : zbi (zgv c s q).2 c < c := by
      obtain ⟨m, rfl⟩ : ∃ m, c = m + 1 := ⟨c - 1, by omega⟩
      exact zbi_lt m
    show 0 ≤ zui _ _ _ j
    by_cases w : j = (zbi (zgv c s q).2 c : Nat)
    · rw [w, zui_eq]
      have := ih (zbi (zgv c s q).2 c : Nat) (by omega) (by omega)
      omega
    · rw [zui_ne w]
      exact ih j a e
theorem zgv_sum {c m : Nat} {s : (Int → Int) × (Int → Int)} (hc : 0 < c ∧ c ≤ m) : ∀ q : Nat, zsm (zgv c s q).1 m = zsm s.1 m + q := by
  intro q
  induction q with
  | zero => show zsm s.1 m = zsm s.1 m + ((0 : Nat) : Int); omega
  | succ q ih =>
    have hb : zbi (zgv c s q).2 c < c := by
      obtain ⟨m, rfl⟩ : ∃ m, c = m + 1 := ⟨c - 1, by omega⟩
      exact zbi_lt m
    rw [zgv]
    show zsm (zui _ _ _) m = _
    rw [zsm_ui (by omega) m (by omega), ih]
    omega
def zind (v : Int) : Int := if 0 ≤ v then 1 else 0
theorem zsm_k {v : Int} : ∀ m : Nat, zsm (fun _ => v) m = m * v := by
  intro m
  induction m with
  | zero => show (0 : Int) = ((0 : Nat) : Int) * v; omega
  | succ m ih => show zsm (fun _ => v) m + v = _; rw [ih, show ((m + 1 : Nat) : Int) = m + 1 by omega, Int.add_mul, Int.one_mul]
/-- as long as fewer than c have got one more, one rest is left that is not below 0 -/
theorem zgv_pos {c : Nat} {s : (Int → Int) × (Int → Int)} (h : ∀ i : Nat, i < c → 0 ≤ s.2 i) : ∀ q : Nat, q < c → 0 ≤ (zgv c s q).2 (zbi (zgv c s q).2 c) := by
  have hcnt : ∀ q : Nat, 0 < c → (c : Int) - q ≤ zsm (fun i => zind ((zgv c s q).2 i)) c := by
    intro q hc
    induction q with
    | zero =>
      have e : zsm (fun i => zind ((zgv c s 0).2 i)) c = zsm (fun _ => 1) c := zsm_c c (fun i hi => if_pos (h i hi))
      rw [e, zsm_k]
      omega
    | succ q ih =>
      have hb : zbi (zgv c s q).2 c < c := by
        obtain ⟨m, rfl⟩ : ∃ m, c = m + 1 := ⟨c - 1, by omega⟩
        exact zbi_lt m
      have e : zsm (fun i => zind ((zgv c s (q + 1)).2 i)) c = zsm (zui (fun i => zind ((zgv c s q).2 i)) (zbi (zgv c s q).2 c) 0) c := by
        refine zsm_c c (fun i hi => ?_)
        show zind (zui _ _ _ (i : Int)) = _
        by_cases w : (i : Int) = (zbi (zgv c s q).2 c : Nat)
        · rw [w, zui_eq, zui_eq]
          rfl
        · rw [zui_ne w, zui_ne w]
      rw [e, zsm_ui (by omega) c (by omega)]
      unfold zind at ih ⊢
      split <;> omega
  intro q hq
  by_cases w : 0 ≤ (zgv c s q).2 (zbi (zgv c s q).2 c)
  · exact w
  · exfalso
    have h1 := hcnt q (by omega)
    have e : zsm (fun i => zind ((zgv c s q).2 i)) c = zsm (fun _ => 0) c := zsm_c c (fun i hi => by
      have := zbi_max (r := (zgv c s q).2) c i hi
      exact if_neg (by omega))
    rw [e, zsm_k] at h1
    omega
/-- the whole shares of the first i; the rests -/
def zqm (old D : Int → Int) (n A i : Int) : Int → Int := fun j => if 0 ≤ j ∧ j < i then D j * n / A else old j
def zqr (old D : Int → Int) (n A i : Int) : Int → Int := fun j => if 0 ≤ j ∧ j < i then D j * n % A else old j
theorem zqm_0 {old D : Int → Int} {n A : Int} : zqm old D n A ((0 : Nat) : Int) = old := by funext j; exact if_neg (by omega)
theorem zqr_0 {old D : Int → Int} {n A : Int} : zqr old D n A ((0 : Nat) : Int) = old := by funext j; exact if_neg (by omega)
theorem zqm_s {old D : Int → Int} {n A : Int} {i : Nat} : zui (zqm old D n A i) i (D i * n / A) = zqm old D n A ((i + 1 : Nat) : Int) := by
  funext j
  unfold zui zqm
  by_cases e : j = i
  · rw [if_pos e, if_pos (by omega), e]
  · rw [if_neg e]
    by_cases q : 0 ≤ j ∧ j < (i : Int)
    · rw [if_pos q, if_pos (by omega)]
    · rw [if_neg q, if_neg (by omega)]
theorem zqr_s {old D : Int → Int} {n A : Int} {i : Nat} : zui (zqr old D n A i) i (D i * n % A) = zqr old D n A ((i + 1 : Nat) : Int) := by
  funext j
  unfold zui zqr
  by_cases e : j = i
  · rw [if_pos e, if_pos (by omega), e]
  · rw [if_neg e]
    by_cases q : 0 ≤ j ∧ j < (i : Int)
    · rw [if_pos q, if_pos (by omega)]
    · rw [if_neg q, if_neg (by omega)]
theorem zsm_mul {G : Int → Int} {n : Int} : ∀ c : Nat, zsm (fun j => G j * n) c = zsm G c * n := by
  intro c
  induction c with
  | zero => show (0 : Int) = 0 * n; omega
  | succ c ih => show zsm (fun j => G j * n) c + G c * n = (zsm G c + G c) * n; rw [ih, Int.add_mul]
theorem zsm_mul' {G : Int → Int} {n : Int} : ∀ c : Nat, zsm (fun j => n * G j) c = n * zsm G c := by
  intro c
  induction c with
  | zero => show (0 : Int) = n * 0; omega
  | succ c ih => show zsm (fun j => n * G j) c + n * G c = n * (zsm G c + G c); rw [ih, Int.mul_add]
/-- what is left when the whole shares are given -/
theorem zlf {D : Int → Int} {n A : Int} {c : Nat} (hD : ∀ j : Int, 0 ≤ j → j < c → 0 ≤ D j ∧ D j ≤ 9999) (hn : 0 ≤ n) (hA : 0 < A) (hs : zsm D c = A) : 0 ≤ n - zsm (fun j => D j * n / A) c ∧ n - zsm (fun j => D j * n / A) c < c ∧ 0 < c := by
  have hc : 0 < c := by
    cases c with
    | zero => have : zsm D 0 = 0 := rfl; omega
    | succ c => omega
  have e : zsm (fun j => A * (D j * n / A) + D j * n % A) c = A * n := by
    rw [show zsm (fun j => A * (D j * n / A) + D j * n % A) c = zsm (fun j => D j * n) c from zsm_c c (fun i _ => Int.mul_ediv_add_emod _ _), zsm_mul, hs]
  rw [zsm_add (F := fun j => A * (D j * n / A)) (G := fun j => D j * n % A), zsm_mul'] at e
  have h1 := zsm_r (G := fun j => D j * n % A) (m := A - 1) (by omega) c (fun k a b => by
    show 0 ≤ D k * n % A ∧ D k * n % A ≤ A - 1
    have h1 := Int.emod_nonneg (D k * n) (show A ≠ 0 by omega)
    have h2 := Int.emod_lt_of_pos (D k * n) hA
    omega)
  generalize zsm (fun j => D j * n / A) c = q at e ⊢
  generalize zsm (fun j => D j * n % A) c = s at e h1
  have e2 : A * (n - q) = s := by rw [Int.mul_sub]; omega
  refine ⟨?_, ?_, hc⟩
  · by_cases w : 0 ≤ n - q
    · exact w
    · exfalso
      have : A * (n - q) < 0 := Int.mul_neg_of_pos_of_neg hA (by omega)
      omega
  · by_cases w : n - q < c
    · exact w
    · exfalso
      have h3 : A * c ≤ A * (n - q) := Int.mul_le_mul_of_nonneg_left (by omega) (by omega)
      have h4 : (A - 1) * (c : Int) = A * c - c := by rw [Int.sub_mul, Int.one_mul]
      omega
