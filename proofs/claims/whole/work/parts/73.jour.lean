/-! the journal of both sides: appending a change or an end -/
def mb (a b c : Bool) : Nat := (if a then 1 else 0) + (if b then 2 else 0) + (if c then 4 else 0)
theorem mb_or (a b c a' b' c' : Bool) : nI (mb a b c) ||| nI (mb a' b' c') = nI (mb (a || a') (b || b') (c || c')) := by
  cases a <;> cases b <;> cases c <;> cases a' <;> cases b' <;> cases c' <;> decide
theorem mb_bit (a b c : Bool) (f : Nat) (hf : f < 3) : nI (mb a b c) ||| ((1 : Int32) <<< (nI f &&& 31)) = nI (mb (a || decide (f = 0)) (b || decide (f = 1)) (c || decide (f = 2))) := by
  rcases (show f = 0 ∨ f = 1 ∨ f = 2 by omega) with rfl | rfl | rfl <;> cases a <;> cases b <;> cases c <;> decide
theorem mb_get (a b c : Bool) (f : Nat) (hf : f < 3) : (((nI (mb a b c)) >>> (nI f &&& 31)) &&& (1 : Int32)) = 0 ↔ (if f = 0 then a else if f = 1 then b else c) = false := by
  rcases (show f = 0 ∨ f = 1 ∨ f = 2 by omega) with rfl | rfl | rfl <;> cases a <;> cases b <;> cases c <;> decide
def mcf (τ : JS) (j : Int32) (n : Nat) : Nat := mb (mce τ j (mof τ (nI 0)) n) (mce τ j (mof τ (nI 1)) n) (mce τ j (mof τ (nI 2)) n)
def mob (τ : JS) (f : Int32) (n : Nat) : Bool := ((mce τ (nI 0) (mof τ f) n || mce τ (nI 1) (mof τ f) n) || mce τ (nI 2) (mof τ f) n) || mce τ (nI 3) (mof τ f) n
def mbo (τ : JS) (n : Nat) : Nat := mb (mob τ (nI 0) n) (mob τ (nI 1) n) (mob τ (nI 2) n)
theorem mon_mob (τ : JS) (f : Int32) (n : Nat) : mon τ f n ↔ mob τ f n = true := by
  unfold mon mob
  simp only [Bool.or_eq_true]
  constructor
  · rintro ⟨j, hj, h⟩
    rcases (show j = 0 ∨ j = 1 ∨ j = 2 ∨ j = 3 by omega) with rfl | rfl | rfl | rfl
    · exact Or.inl (Or.inl (Or.inl h))
    · exact Or.inl (Or.inl (Or.inr h))
    · exact Or.inl (Or.inr h)
    · exact Or.inr h
  · rintro (((h | h) | h) | h)
    · exact ⟨0, by omega, h⟩
    · exact ⟨1, by omega, h⟩
    · exact ⟨2, by omega, h⟩
    · exact ⟨3, by omega, h⟩
theorem H_note (σ τ : JS) (n m : Nat) (hn : σ 100 0 = nI n) (h : n ≤ 120) (h14 : ∀ i : Nat, i < 4 → σ 14 i = nI (mcf τ (nI i) m)) : mJ_noteOpenFiles σ = some (jw2 σ 11 n (nI (mbo τ m))) := by
  unfold mJ_noteOpenFiles
  rw [l0, mJ_noteOpenFiles_L4, if_neg (by decide), jrd_n _ _ _ _ _ (by omega) (by decide), nI_1, mJ_noteOpenFiles_L4, if_neg (by decide), jrd_n _ _ _ _ _ (by omega) (by decide), nI_1, mJ_noteOpenFiles_L4, if_neg (by decide), jrd_n _ _ _ _ _ (by omega) (by decide), nI_1, mJ_noteOpenFiles_L4, if_neg (by decide), jrd_n _ _ _ _ _ (by omega) (by decide), nI_1, mJ_noteOpenFiles_L4, if_pos (by decide), hn, jwr_n _ _ _ _ _ _ (by omega) (by decide), h14 0 (by omega), h14 1 (by omega), h14 2 (by omega), h14 3 (by omega)]
  rw [show nI 0 = nI (mb false false false) from rfl]
  unfold mcf
  rw [mb_or, mb_or, mb_or, mb_or]
  simp only [Bool.false_or]
  rfl
/-- an entry appended to the model's journal -/
def jap (τ : JS) (n : Nat) (k j f r b v : Int32) : JS := jw2 (jw2 (jw2 (jw2 (jw2 (jw2 (jw2 τ 100 2 (nI (n + 1))) 4 (n + 1) k) 5 (n + 1) j) 6 (n + 1) f) 7 (n + 1) r) 8 (n + 1) b) 9 (n + 1) v
theorem jap_row (τ : JS) (n : Nat) (k j f r b v : Int32) (a : Nat) (h : a < 4 ∨ 9 < a) (h2 : a ≠ 100) : jap τ n k j f r b v a = τ a := by
  unfold jap jw2
  rw [if_neg (by omega), if_neg (by omega), if_neg (by omega), if_neg (by omega), if_neg (by omega), if_neg (by omega), if_neg (by omega)]
theorem jap_100 (τ : JS) (n : Nat) (k j f r b v : Int32) (q : Nat) : jap τ n k j f r b v 100 q = if q = 2 then nI (n + 1) else τ 100 q := by
  unfold jap
  simp only [jw2_at]
  simp
theorem jap_old (τ : JS) (n : Nat) (k j f r b v : Int32) (a q : Nat) (h : q ≠ n + 1) (h2 : a ≠ 100) : jap τ n k j f r b v a q = τ a q := by
  unfold jap
  simp only [jw2_at, if_neg h, if_neg h2, ite_self]
theorem jap_new (τ : JS) (n : Nat) (k j f r b v : Int32) : jap τ n k j f r b v 4 (n + 1) = k ∧ jap τ n k j f r b v 5 (n + 1) = j ∧ jap τ n k j f r b v 6 (n + 1) = f ∧ jap τ n k j f r b v 7 (n + 1) = r ∧ jap τ n k j f r b v 8 (n + 1) = b ∧ jap τ n k j f r b v 9 (n + 1) = v := by
  unfold jap
  simp only [jw2_at]
  simp
theorem jap_same (τ : JS) (n : Nat) (k j f r b v : Int32) : jsame τ (jap τ n k j f r b v) n := fun q h1 h2 => by
  rw [jap_old _ _ _ _ _ _ _ _ _ _ (by omega) (by decide), jap_old _ _ _ _ _ _ _ _ _ _ (by omega) (by decide), jap_old _ _ _ _ _ _ _ _ _ _ (by omega) (by decide), jap_old _ _ _ _ _ _ _ _ _ _ (by omega) (by decide), jap_old _ _ _ _ _ _ _ _ _ _ (by omega) (by decide), jap_old _ _ _ _ _ _ _ _ _ _ (by omega) (by decide)]
  exact ⟨rfl, rfl, rfl, rfl, rfl, rfl⟩
theorem M_note_J (τ : JS) (n : Nat) (hn : τ 100 2 = nI n) (h : n < 120) (k j f r v b : Int32) : mM_note_J20 τ k j f r v b = some (jap τ n k j f r b v) := by
  have hw : ∀ (σ : JS) (a : Nat) (x : Int32) (K : JS → Option JS), jwr σ a 121 (nI (n + 1)) x K = K (jw2 σ a (n + 1) x) := fun σ a x K => jwr_n _ _ _ _ _ _ (by omega) (by decide)
  unfold mM_note_J20
  rw [jst_n, hn, nI_1]
  have e0 : jw2 τ 100 2 (nI (n + 1)) 100 2 = nI (n + 1) := by simp [jw2_at]
  rw [e0, hw]
  rw [show (jw2 (jw2 τ 100 2 (nI (n + 1))) 4 (n + 1) k) 100 2 = nI (n + 1) from e0, hw]
  rw [show (jw2 (jw2 (jw2 τ 100 2 (nI (n + 1))) 4 (n + 1) k) 5 (n + 1) j) 100 2 = nI (n + 1) from e0, hw]
  rw [show (jw2 (jw2 (jw2 (jw2 τ 100 2 (nI (n + 1))) 4 (n + 1) k) 5 (n + 1) j) 6 (n + 1) f) 100 2 = nI (n + 1) from e0, hw]
  rw [show (jw2 (jw2 (jw2 (jw2 (jw2 τ 100 2 (nI (n + 1))) 4 (n + 1) k) 5 (n + 1) j) 6 (n + 1) f) 7 (n + 1) r) 100 2 = nI (n + 1) from e0, hw]
  rw [show (jw2 (jw2 (jw2 (jw2 (jw2 (jw2 τ 100 2 (nI (n + 1))) 4 (n + 1) k) 5 (n + 1) j) 6 (n + 1) f) 7 (n + 1) r) 8 (n + 1) b) 100 2 = nI (n + 1) from e0, hw]
  rfl
theorem M_noteC (τ : JS) (n : Nat) (hn : τ 100 2 = nI n) (h : n < 120) (j f r v : Int32) : mM_note τ 1 j f r v = some (jap τ n 1 j f r (mvl τ f r n) v) := by
  unfold mM_note
  rw [if_pos rfl, hn, M_val τ f r n (by omega), jbn_s, M_note_J τ n hn h]
theorem M_noteE (τ : JS) (n : Nat) (hn : τ 100 2 = nI n) (h : n < 120) (k j : Int32) (hk : k ≠ 1) : mM_note τ k j 0 0 0 = some (jap τ n k j 0 0 0 0) := by
  unfold mM_note
  rw [if_neg hk, M_note_J τ n hn h]
/-- an entry appended to the house's journal -/
def hap (σ : JS) (n : Nat) (k j x b v : Int32) (i : Nat) (c12 c13 c14 o : Int32) : JS := jw2 (jw2 (jw2 (jw2 (jw2 (jw2 (jw2 (jw2 (jw2 (jw2 σ 100 0 (nI (n + 1))) 6 (n + 1) k) 7 (n + 1) j) 8 (n + 1) x) 9 (n + 1) b) 10 (n + 1) v) 12 i c12) 13 i c13) 14 i c14) 11 (n + 1) o
