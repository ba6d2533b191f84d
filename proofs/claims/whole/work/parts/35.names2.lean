/-! ===== a note has the name on the tape: both sides' words for it ===== -/
theorem zfst_hit {p : Nat → Bool} : ∀ m i, zfst p (fun k => k) (i + m) m i < i + m → p (zfst p (fun k => k) (i + m) m i) = true := by
  intro m
  induction m with
  | zero => intro i h; change i + 0 < i + 0 at h; omega
  | succ m ih =>
    intro i h
    rw [zfst] at h ⊢
    cases e : p i with
    | true => rw [if_pos rfl]; exact e
    | false =>
      rw [e, if_neg (by decide)] at h
      rw [if_neg (by decide)]
      have := ih (i + 1) (by rw [show i + 1 + m = i + (m + 1) by omega]; exact h)
      rw [show i + 1 + m = i + (m + 1) by omega] at this
      exact this
theorem zhas_w {A T : Int → Int} {n m : Nat} (hm : 0 < m ∧ m ≤ 7) (hA : ∀ k : Int, 0 ≤ k → k < 7 → zlo (A (10 + 11 * n + k))) (hs : ∀ k : Int, 0 ≤ k → k < 6 → A (10 + 11 * n + k) = 0 → A (10 + 11 * n + k + 1) = 0) (hT : ∀ k : Nat, k < 7 → (k : Int) < m → 97 ≤ T k ∧ T k ≤ 122) : zhas A T 0 m n ↔ zmn A n = zhn (zwd T 0 m) 7 := by
  rw [zwd_cd hT]
  have hle : znl A n ≤ 7 := zfst_le 7 0
  constructor
  · rintro ⟨hl, he⟩
    have hz : ∀ q : Nat, m + q < 7 → A (10 + 11 * n + ((m + q : Nat) : Int)) = 0 := by
      intro q
      induction q with
      | zero =>
        intro h
        have hh := zfst_hit (p := fun k => decide (A (10 + 11 * n + k) ≤ 0)) 7 0 (by
          have : znl A n < 0 + 7 := by omega
          exact this)
        have hh : decide (A (10 + 11 * n + (znl A n : Nat)) ≤ 0) = true := hh
        rw [hl] at hh
        have h1 := of_decide_eq_true hh
        have h2 := hA m (by omega) (by omega)
        unfold zlo at h2
        show A (10 + 11 * n + (m : Int)) = 0
        omega
      | succ q ih =>
        intro h
        have := hs ((m + q : Nat) : Int) (by omega) (by omega) (ih (by omega))
        rw [show 10 + 11 * (n : Int) + ((m + (q + 1) : Nat) : Int) = 10 + 11 * n + ((m + q : Nat) : Int) + 1 by omega]
        exact this
    refine zcd_eq (fun k hk => ?_)
    show A (10 + 11 * n + k) = if (k : Int) < m then T k else 0
    by_cases e : (k : Int) < m
    · rw [if_pos e, he k (by omega), Int.zero_add]
    · rw [if_neg e]
      have := hz (k - m) (by omega)
      rw [show m + (k - m) = k by omega] at this
      exact this
  · intro h
    have hG : ∀ k : Int, 0 ≤ k → k < 7 → zlo (if k < m then T k else 0) := by
      intro k h0 h7
      obtain ⟨j, rfl⟩ := Int.eq_ofNat_of_zero_le h0
      unfold zlo
      split
      · rename_i q
        exact Or.inr (hT j (by omega) q)
      · exact Or.inl rfl
    have hi := fun (k : Nat) (hk : k < 7) => zcd_inj hA hG h 7 k hk (Nat.le_refl 7)
    refine ⟨?_, fun k hk => ?_⟩
    · rcases Nat.lt_trichotomy (znl A n) m with q | q | q
      · exfalso
        have hh := zfst_hit (p := fun k => decide (A (10 + 11 * n + k) ≤ 0)) 7 0 (by
          have : znl A n < 0 + 7 := by omega
          exact this)
        have hh : decide (A (10 + 11 * n + (znl A n : Nat)) ≤ 0) = true := hh
        have h1 := of_decide_eq_true hh
        have h2 : A (10 + 11 * n + (znl A n : Nat)) = if ((znl A n : Nat) : Int) < m then T (znl A n : Nat) else 0 := hi (znl A n) (by omega)
        rw [if_pos (by omega)] at h2
        have h3 := hT (znl A n) (by omega) (by omega)
        omega
      · exact q
      · exfalso
        have hh := (zfst_lt (p := fun k => decide (A (10 + 11 * n + k) ≤ 0)) 7 0 m (by omega) q).1
        have h1 := of_decide_eq_false hh
        have h2 : A (10 + 11 * n + m) = if (m : Int) < m then T m else 0 := hi m (by omega)
        rw [if_neg (by omega)] at h2
        omega
    · have h2 : A (10 + 11 * n + k) = if (k : Int) < m then T k else 0 := hi k (by omega)
      rw [if_pos (by omega)] at h2
      rw [h2, Int.zero_add]
