/-! what the journal says, by number: the model's rows 4 kind, 5 job, 6 file, 7 spot, 8 before, 9 after -/
def mvl (τ : JS) (f r : Int32) : Nat → Int32
  | 0 => 0
  | n + 1 => if τ 4 (n + 1) = 1 ∧ τ 6 (n + 1) = f ∧ τ 7 (n + 1) = r then τ 9 (n + 1) else mvl τ f r n
def mcy (τ : JS) (j : Int32) : Nat → Nat
  | 0 => 0
  | n + 1 => if τ 5 (n + 1) = j then (if τ 4 (n + 1) = 1 then (if mcy τ j n = 0 then n + 1 else mcy τ j n) else 0) else mcy τ j n
def mcn (τ : JS) (j : Int32) : Nat → Nat
  | 0 => 0
  | n + 1 => if τ 5 (n + 1) = j then (if τ 4 (n + 1) = 1 then mcn τ j n + 1 else 0) else mcn τ j n
/-- some change of the open cycle of j, up to n, is such a one -/
def mce (τ : JS) (j : Int32) (G : Nat → Bool) : Nat → Bool
  | 0 => false
  | n + 1 => if τ 5 (n + 1) = j then (if τ 4 (n + 1) = 1 then (mce τ j G n || G (n + 1)) else false) else mce τ j G n
def jsame (τ τ' : JS) (n : Nat) : Prop := ∀ k, 1 ≤ k → k ≤ n → τ' 4 k = τ 4 k ∧ τ' 5 k = τ 5 k ∧ τ' 6 k = τ 6 k ∧ τ' 7 k = τ 7 k ∧ τ' 8 k = τ 8 k ∧ τ' 9 k = τ 9 k
theorem jsame.lt {τ τ' : JS} {n m : Nat} (h : jsame τ τ' n) (hm : m ≤ n) : jsame τ τ' m := fun k h1 h2 => h k h1 (Nat.le_trans h2 hm)
theorem mvl_same {τ τ' : JS} (f r : Int32) : ∀ {n : Nat}, jsame τ τ' n → mvl τ' f r n = mvl τ f r n
  | 0, _ => rfl
  | n + 1, h => by
    obtain ⟨h4, h5, h6, h7, h8, h9⟩ := h (n + 1) (by omega) (by omega)
    simp only [mvl, h4, h6, h7, h9, mvl_same f r (h.lt (Nat.le_succ n))]
theorem mcy_same {τ τ' : JS} (j : Int32) : ∀ {n : Nat}, jsame τ τ' n → mcy τ' j n = mcy τ j n
  | 0, _ => rfl
  | n + 1, h => by
    obtain ⟨h4, h5, h6, h7, h8, h9⟩ := h (n + 1) (by omega) (by omega)
    simp only [mcy, h4, h5, mcy_same j (h.lt (Nat.le_succ n))]
theorem mcn_same {τ τ' : JS} (j : Int32) : ∀ {n : Nat}, jsame τ τ' n → mcn τ' j n = mcn τ j n
  | 0, _ => rfl
  | n + 1, h => by
    obtain ⟨h4, h5, h6, h7, h8, h9⟩ := h (n + 1) (by omega) (by omega)
    simp only [mcn, h4, h5, mcn_same j (h.lt (Nat.le_succ n))]
theorem mce_same {τ τ' : JS} (j : Int32) {G G' : Nat → Bool} : ∀ {n : Nat}, jsame τ τ' n → (∀ k, 1 ≤ k → k ≤ n → G' k = G k) → mce τ' j G' n = mce τ j G n
  | 0, _, _ => rfl
  | n + 1, h, hG => by
    obtain ⟨h4, h5, h6, h7, h8, h9⟩ := h (n + 1) (by omega) (by omega)
    simp only [mce, h4, h5, hG (n + 1) (by omega) (by omega), mce_same j (h.lt (Nat.le_succ n)) (fun k a b => hG k a (Nat.le_succ_of_le b))]
theorem mcy_le (τ : JS) (j : Int32) : ∀ n : Nat, mcy τ j n ≤ n
  | 0 => Nat.le_refl 0
  | n + 1 => by
    have ih := mcy_le τ j n
    simp only [mcy]
    split
    · split
      · split <;> omega
      · omega
    · omega
theorem mcn_mcy (τ : JS) (j : Int32) : ∀ n : Nat, (mcn τ j n = 0 ↔ mcy τ j n = 0)
  | 0 => by simp [mcn, mcy]
  | n + 1 => by
    have ih := mcn_mcy τ j n
    simp only [mcn, mcy]
    split
    · split
      · split <;> omega
      · simp
    · exact ih
theorem mcn_le (τ : JS) (j : Int32) : ∀ n : Nat, mcn τ j n + mcy τ j n ≤ n + 1 ∧ mcn τ j n ≤ n
  | 0 => by simp [mcn, mcy]
  | n + 1 => by
    have ih := mcn_le τ j n
    have h0 := mcn_mcy τ j n
    simp only [mcn, mcy]
    split
    · split
      · split <;> omega
      · omega
    · omega
theorem mce_cy0 (τ : JS) (j : Int32) (G : Nat → Bool) : ∀ n : Nat, mcy τ j n = 0 → mce τ j G n = false
  | 0, _ => rfl
  | n + 1, h => by
    have ih := mce_cy0 τ j G n
    simp only [mcy] at h
    simp only [mce]
    split at h
    · rename_i h5
      rw [if_pos h5]
      split at h
      · split at h
        · omega
        · omega
      · rename_i h4
        rw [if_neg h4]
    · rename_i h5
      rw [if_neg h5]
      exact ih h
/-- within an open cycle its job has changes alone -/
theorem mcy_kd (τ : JS) (j : Int32) : ∀ n k : Nat, 0 < mcy τ j n → mcy τ j n ≤ k → k ≤ n → τ 5 k = j → τ 4 k = 1
  | 0, _, h, _, _, _ => by simp [mcy] at h
  | n + 1, k, h, h1, h2, h3 => by
    simp only [mcy] at h h1
    by_cases hk : k = n + 1
    · subst hk
      rw [if_pos h3] at h
      by_cases h4 : τ 4 (n + 1) = 1
      · exact h4
      · rw [if_neg h4] at h; omega
    · have h2' : k ≤ n := by omega
      split at h
      · rename_i h5
        rw [if_pos h5] at h1
        split at h
        · rename_i h4
          rw [if_pos h4] at h1
          split at h
          · rename_i h0
            rw [if_pos h0] at h1
            omega
          · rename_i h0
            rw [if_neg h0] at h1
            exact mcy_kd τ j n k (by omega) h1 h2' h3
        · omega
      · rename_i h5
        rw [if_neg h5] at h1
        exact mcy_kd τ j n k h h1 h2' h3
theorem mce_iff (τ : JS) (j : Int32) (G : Nat → Bool) : ∀ n : Nat, (mce τ j G n = true ↔ 0 < mcy τ j n ∧ ∃ k, mcy τ j n ≤ k ∧ k ≤ n ∧ τ 5 k = j ∧ G k = true)
  | 0 => by simp [mce, mcy]
  | n + 1 => by
    have ih := mce_iff τ j G n
    have hc := mcy_le τ j n
    simp only [mce, mcy]
    by_cases h5 : τ 5 (n + 1) = j
    · rw [if_pos h5, if_pos h5]
      by_cases h4 : τ 4 (n + 1) = 1
      · rw [if_pos h4, if_pos h4]
        by_cases h0 : mcy τ j n = 0
        · rw [if_pos h0, mce_cy0 τ j G n h0]
          constructor
          · intro h
            exact ⟨by omega, n + 1, Nat.le_refl _, Nat.le_refl _, h5, by simpa using h⟩
          · rintro ⟨-, k, h1, h2, h3, h6⟩
            have : k = n + 1 := by omega
            subst this
            simpa using h6
        · rw [if_neg h0, Bool.or_eq_true, ih]
          constructor
          · rintro (⟨h1, k, h2, h3, h6, h7⟩ | h)
            · exact ⟨h1, k, h2, by omega, h6, h7⟩
            · exact ⟨by omega, n + 1, by omega, Nat.le_refl _, h5, h⟩
          · rintro ⟨h1, k, h2, h3, h6, h7⟩
            by_cases hk : k = n + 1
            · subst hk; exact Or.inr h7
            · exact Or.inl ⟨h1, k, h2, by omega, h6, h7⟩
      · rw [if_neg h4, if_neg h4]
        simp
    · rw [if_neg h5, if_neg h5, ih]
      constructor
      · rintro ⟨h1, k, h2, h3, h6, h7⟩
        exact ⟨h1, k, h2, by omega, h6, h7⟩
      · rintro ⟨h1, k, h2, h3, h6, h7⟩
        by_cases hk : k = n + 1
        · subst hk; exact absurd h6 h5
        · exact ⟨h1, k, h2, by omega, h6, h7⟩
