/-! restore, apply, remove -/
theorem H_chg (σ τ : JS) (n c k f : Nat) (hA : tA σ τ n c) (hn : n ≤ 120) (hc : c ≤ 3) (h1 : 1 ≤ k) (h2 : k ≤ n) (hf : f < 3) : mJ_isChangeOf σ (nI f) (nI k) = some (b2 (τ 4 k = 1 ∧ τ 6 k = nI f)) := by
  obtain ⟨t1, t2, t3, t4⟩ := hA.1.2.2 k h1 h2
  unfold mJ_isChangeOf mH_fileOf
  rw [jrd_n _ _ _ _ _ (by omega) (by decide), t1]
  by_cases h4 : τ 4 k = 1
  · obtain ⟨b1, b2', b3, f', r, hf', hr, g6, g7, g8⟩ := t4 h4
    rw [if_pos h4, jrd_n _ _ _ _ _ (by omega) (by decide), jbn_s, g8, l8, pk_div (by omega) (by omega) (by omega), show (8 * f' + r) / 8 = f' by omega, g6]
    by_cases hff : nI f' = nI f
    · rw [if_pos hff, b2_t ⟨h4, hff⟩]
    · rw [if_neg hff, b2_f (fun z => hff z.2)]
  · rw [if_neg h4, b2_f (fun z => h4 z.1)]
def mlc (τ : JS) (f : Int32) (d u v : Nat) : Prop := ∃ q, u ≤ q ∧ q ≤ v ∧ τ 4 q = 1 ∧ τ 6 q = f ∧ q ≤ 8 * d
theorem H_keep_L (σ τ : JS) (n c d f v : Nat) (hA : tA σ τ n c) (hn : n ≤ 120) (hc : c ≤ 3) (h1 : σ 100 1 = nI d) (hd : 8 * d ≤ n) (hf : f < 3) (hv : v ≤ n) : ∀ (e i fuel : Nat), i + e = v + 1 → 1 ≤ i → e < fuel → mJ_keepsChangesOf_L5 σ (nI f) (nI v) fuel (nI i) = some (b2 (¬ mlc τ (nI f) d i v))
  | e, i, 0, _, _, h => absurd h (Nat.not_lt_zero _)
  | 0, i, fuel + 1, hi, _, _ => by
    rw [mJ_keepsChangesOf_L5, if_pos (nI_lt (by omega) (by omega)), b2_t]
    rintro ⟨q, q1, q2, -⟩
    omega
  | e + 1, i, fuel + 1, hi, h0, h => by
    have ih := H_keep_L σ τ n c d f v hA hn hc h1 hd hf hv e (i + 1) fuel (by omega) (by omega) (by omega)
    have skip : ¬ (τ 4 i = 1 ∧ τ 6 i = nI f ∧ i ≤ 8 * d) → mJ_keepsChangesOf_L5 σ (nI f) (nI v) fuel (nI i + 1) = some (b2 (¬ mlc τ (nI f) d i v)) := fun hno => by
      rw [nI_1, ih]
      congr 1
      refine b2_c (not_congr ⟨?_, ?_⟩)
      · rintro ⟨q, q1, q2, q3⟩
        exact ⟨q, by omega, q2, q3⟩
      · rintro ⟨q, q1, q2, q3⟩
        by_cases hq : q = i
        · subst hq; exact absurd q3 hno
        · exact ⟨q, by omega, q2, q3⟩
    rw [mJ_keepsChangesOf_L5, if_neg (nI_nlt (by omega) (by omega)), H_chg σ τ n c i f hA hn hc (by omega) (by omega) hf, jbn_s]
    by_cases hp : τ 4 i = 1 ∧ τ 6 i = nI f
    · rw [b2_t hp, if_neg n10, Q_kept1 σ τ i n d hA.1.1 h1 hn hd (by omega), jbn_s]
      by_cases hk : 8 * d < i
      · rw [b2_t hk, if_neg n10]
        exact skip (fun z => by omega)
      · rw [b2_f hk, if_pos rfl, b2_f (fun z => z ⟨i, Nat.le_refl _, by omega, hp.1, hp.2, by omega⟩)]
    · rw [b2_f hp, if_pos rfl]
      exact skip (fun z => hp ⟨z.1, z.2.1⟩)
theorem M_lacks_L (τ : JS) (n d v : Nat) (f : Int32) (hn : n ≤ 120) (h3 : τ 100 3 = nI d) (hd : d ≤ 15) (hv : v ≤ n) : ∀ (e i fuel : Nat) (p : Prop), i + e = v + 1 → e < fuel → mM_lacks_L8 τ f (nI v) fuel (b2 p) (nI i) = some (b2 (p ∨ mlc τ f d i v))
  | e, i, 0, _, _, h => absurd h (Nat.not_lt_zero _)
  | 0, i, fuel + 1, p, hi, _ => by
    rw [mM_lacks_L8, if_pos (nI_lt (by omega) (by omega)), jzc_b]
    congr 1
    refine b2_c ⟨Or.inl, ?_⟩
    rintro (h | ⟨q, q1, q2, -⟩)
    · exact h
    · omega
  | e + 1, i, fuel + 1, p, hi, h => by
    have key : ∀ x : Int32, x = b2 (p ∨ (τ 4 i = 1 ∧ τ 6 i = f ∧ i ≤ 8 * d)) → mM_lacks_L8 τ f (nI v) fuel x (nI i + 1) = some (b2 (p ∨ mlc τ f d i v)) := fun x hx => by
      rw [hx, nI_1, M_lacks_L τ n d v f hn h3 hd hv e (i + 1) fuel _ (by omega) (by omega)]
      congr 1
      refine b2_c ⟨?_, ?_⟩
      · rintro ((h | h) | ⟨q, q1, q2, q3⟩)
        · exact Or.inl h
        · exact Or.inr ⟨i, Nat.le_refl _, by omega, h⟩
        · exact Or.inr ⟨q, by omega, q2, q3⟩
      · rintro (h | ⟨q, q1, q2, q3⟩)
        · exact Or.inl (Or.inl h)
        · by_cases hq : q = i
          · subst hq; exact Or.inl (Or.inr q3)
          · exact Or.inr ⟨q, by omega, q2, q3⟩
    rw [mM_lacks_L8, if_neg (nI_nlt (by omega) (by omega))]
    by_cases hp : p
    · rw [if_neg (by rw [b2_t hp]; decide)]
      exact key _ (b2_t (Or.inl hp)).symm
    · rw [if_pos (b2_f hp), jrd_n _ _ _ _ _ (by omega) (by decide)]
      by_cases h4 : τ 4 i = 1
      · rw [if_pos h4, jrd_n _ _ _ _ _ (by omega) (by decide)]
        by_cases h6 : τ 6 i = f
        · rw [if_pos h6, h3, l8, pk_mul]
          by_cases hk : 8 * d < i
          · rw [if_pos (nI_lt hk (by omega))]
            exact key _ (b2_f (fun z => z.elim hp (fun z => by omega))).symm
          · rw [if_neg (nI_nlt (by omega) (by omega))]
            exact key _ (b2_t (Or.inr ⟨h4, h6, by omega⟩)).symm
        · rw [if_neg h6]
          exact key _ (b2_f (fun z => z.elim hp (fun z => h6 z.2.1))).symm
      · rw [if_neg h4]
        exact key _ (b2_f (fun z => z.elim hp (fun z => h4 z.1))).symm
theorem Q_lacks (σ τ : JS) (n c d f u v : Nat) (hA : tA σ τ n c) (hR : tR σ τ n d) (hc : c ≤ 3) (hf : f < 3) (hu : u ≤ v) (hv : v ≤ n) : mJ_keepsChangesOf σ (nI f) (nI u) (nI v) = some (b2 (¬ mlc τ (nI f) d (u + 1) v)) ∧ mM_lacks τ (nI f) (nI u) (nI v) = some (b2 (mlc τ (nI f) d (u + 1) v)) := by
  obtain ⟨hn, hd⟩ := tR_n hR
  unfold mJ_keepsChangesOf mM_lacks
  rw [nI_1, H_keep_L σ τ n c d f v hA hn hc hR.1 hR.2.2.1 hf hv (v - u) (u + 1) 999 (by omega) (by omega) (by omega)]
  have e := M_lacks_L τ n d v (nI f) hn hR.2.1 hd hv (v - u) (u + 1) 999 False (by omega) (by omega)
  rw [b2_f id] at e
  rw [e]
  exact ⟨rfl, congrArg some (b2_c ⟨fun z => z.elim False.elim id, Or.inr⟩)⟩
def tWn (σ τ : JS) (f i : Nat) (σ1 : JS) : Prop := (∀ q, q ≠ 29 → σ1 q = σ q) ∧ ∀ r : Nat, r < 8 → nI r < τ 1 f → σ1 29 r = mvl τ (nI f) (nI r) i
theorem H_ap_L {σ τ : JS} {n c f k : Nat} (hA : tA σ τ n c) (hn : n ≤ 120) (hc : c ≤ 3) (hf : f < 3) (hk : k ≤ n) : ∀ (e i fuel : Nat) (σ1 : JS), i + e = k → e < fuel → tWn σ τ f i σ1 → ∃ (σ2 : JS) (z : Int32), (∀ K, mH_apply_L54 K (nI f) (nI k) fuel σ1 (nI (i + 1)) = K σ2 z) ∧ tWn σ τ f k σ2
  | e, i, 0, _, _, h, _ => absurd h (Nat.not_lt_zero _)
  | 0, i, fuel + 1, σ1, hi, _, hS => by
    have e : i = k := by omega
    subst e
    exact ⟨σ1, nI (i + 1), fun K => by rw [mH_apply_L54, if_pos (nI_lt (by omega) (by omega))], hS⟩
  | e + 1, i, fuel + 1, σ1, hi, h, hS => by
    obtain ⟨s1, s2⟩ := hS
    have hA1 : tA σ1 τ n c := tA_fr (fun q g1 g2 => s1 q (by omega)) (by rw [s1 100 (by decide)]) (fun _ _ _ => rfl) rfl hA
    have hch := H_chg σ1 τ n c (i + 1) f hA1 hn hc (by omega) (by omega) hf
    by_cases hp : τ 4 (i + 1) = 1 ∧ τ 6 (i + 1) = nI f
    · obtain ⟨b1, b2', b3, f', r, hf', hr, g6, g7, g8⟩ := (hA.1.2.2 (i + 1) (by omega) (by omega)).2.2.2 hp.1
      have hS2 : tWn σ τ f (i + 1) (jw2 σ1 29 r (τ 9 (i + 1))) := by
        refine ⟨fun q g => by rw [← s1 q g]; unfold jw2; rw [if_neg g], fun r' hr' hlt => ?_⟩
        rw [jw2_at, if_pos rfl, mvl, g7]
        by_cases hz : r' = r
        · rw [if_pos hz, if_pos ⟨hp.1, hp.2, by rw [hz]⟩]
        · rw [if_neg hz, if_neg (fun q => hz (nI_inj (by omega) (by omega) q.2.2).symm)]
          exact s2 r' hr' hlt
      obtain ⟨σ2, z, e1, h2⟩ := H_ap_L hA hn hc hf hk e (i + 1) fuel _ (by omega) (by omega) hS2
      refine ⟨σ2, z, fun K => ?_, h2⟩
      rw [mH_apply_L54, if_neg (nI_nlt (by omega) (by omega)), hch, jbn_s, b2_t hp, if_neg n10, jrd_n _ _ _ _ _ (by omega) (by decide), s1 8 (by decide), g8]
      unfold mH_recordOf
      rw [jbn_s, l8, pk_rem (by omega) (by omega) (by omega), show (8 * f' + r) % 8 = r by omega, jrd_n _ _ _ _ _ (by omega) (by decide), s1 10 (by decide), b2', jwr_n _ _ _ _ _ _ hr (by decide), nI_1, e1]
    · have hS2 : tWn σ τ f (i + 1) σ1 := ⟨s1, fun r' hr' hlt => by rw [mvl, if_neg (fun z => hp ⟨z.1, z.2.1⟩)]; exact s2 r' hr' hlt⟩
      obtain ⟨σ2, z, e1, h2⟩ := H_ap_L hA hn hc hf hk e (i + 1) fuel σ1 (by omega) (by omega) hS2
      refine ⟨σ2, z, fun K => ?_, h2⟩
      rw [mH_apply_L54, if_neg (nI_nlt (by omega) (by omega)), hch, jbn_s, b2_f hp, if_pos rfl, nI_1, e1]
theorem H_rm_L {σ τ : JS} {n c f k : Nat} (x3 x4 : Int32) (hA : tA σ τ n c) (hn : n ≤ 120) (hc : c ≤ 3) (hf : f < 3) : ∀ (e fuel : Nat) (σ1 : JS), k + e ≤ n → e < fuel → tWn σ τ f (k + e) σ1 → ∃ (σ2 : JS) (z : Int32), (∀ K, mH_remove_L81 K (nI f) (nI k) x3 x4 fuel σ1 (nI (k + e)) = K σ2 z) ∧ tWn σ τ f k σ2
  | e, 0, _, _, h, _ => absurd h (Nat.not_lt_zero _)
  | 0, fuel + 1, σ1, hk, _, hS => ⟨σ1, nI (k + 0), fun K => by rw [mH_remove_L81, if_pos (nI_le (by omega) (by omega))], hS⟩
  | e + 1, fuel + 1, σ1, hk, h, hS => by
    obtain ⟨s1, s2⟩ := hS
    have hA1 : tA σ1 τ n c := tA_fr (fun q g1 g2 => s1 q (by omega)) (by rw [s1 100 (by decide)]) (fun _ _ _ => rfl) rfl hA
    have hch := H_chg σ1 τ n c (k + e + 1) f hA1 hn hc (by omega) (by omega) hf
    rw [show k + (e + 1) = k + e + 1 by omega] at s2 ⊢
    by_cases hp : τ 4 (k + e + 1) = 1 ∧ τ 6 (k + e + 1) = nI f
    · obtain ⟨b1, b2', b3, f', r, hf', hr, g6, g7, g8⟩ := (hA.1.2.2 (k + e + 1) (by omega) (by omega)).2.2.2 hp.1
      have hS2 : tWn σ τ f (k + e) (jw2 σ1 29 r (τ 8 (k + e + 1))) := by
        refine ⟨fun q g => by rw [← s1 q g]; unfold jw2; rw [if_neg g], fun r' hr' hlt => ?_⟩
        rw [jw2_at, if_pos rfl]
        by_cases hz : r' = r
        · rw [if_pos hz, b3, hp.2, g7, hz, Nat.add_sub_cancel]
        · have := s2 r' hr' hlt
          rw [mvl, g7, if_neg (fun q => hz (nI_inj (by omega) (by omega) q.2.2).symm)] at this
          rw [if_neg hz]
          exact this
      obtain ⟨σ2, z, e1, h2⟩ := H_rm_L x3 x4 hA hn hc hf e fuel _ (by omega) (by omega) hS2
      refine ⟨σ2, z, fun K => ?_, h2⟩
      rw [mH_remove_L81, if_neg (nI_ge (by omega) (by omega)), hch, jbn_s, b2_t hp, if_neg n10, jrd_n _ _ _ _ _ (by omega) (by decide), s1 8 (by decide), g8]
      unfold mH_recordOf
      rw [jbn_s, l8, pk_rem (by omega) (by omega) (by omega), show (8 * f' + r) % 8 = r by omega, jrd_n _ _ _ _ _ (by omega) (by decide), s1 9 (by decide), b1, jwr_n _ _ _ _ _ _ hr (by decide), pk_m1, e1]
    · have hS2 : tWn σ τ f (k + e) σ1 := ⟨s1, fun r' hr' hlt => by
        have := s2 r' hr' hlt
        rw [mvl, if_neg (fun z => hp ⟨z.1, z.2.1⟩)] at this
        exact this⟩
      obtain ⟨σ2, z, e1, h2⟩ := H_rm_L x3 x4 hA hn hc hf e fuel σ1 (by omega) (by omega) hS2
      refine ⟨σ2, z, fun K => ?_, h2⟩
      rw [mH_remove_L81, if_neg (nI_ge (by omega) (by omega)), hch, jbn_s, b2_f hp, if_pos rfl, pk_m1, e1]
theorem O_restore : jo_restore JInv := by
  intro σ τ x1 h
  have hJ := fun y => J_thr y h
  obtain ⟨n, c, d, w, l, a, hI⟩ := h
  have hI0 := tI_thr 0 hI
  have hJ0 := hJ 0
  unfold mH_restore mM_restore
  rcases Q_slot σ τ x1 with ⟨s, hs4, rfl, g1, g2⟩ | ⟨g1, g2⟩
  · rw [g1, g2, jbn_s, jbn_s, if_neg n10, if_neg n10]
    unfold mM_restore_J15 mM_refuse
    rw [jst_n, thr_0, if_pos (show (0 : Int32) ≤ 0 by decide)]
    have t0 : jw2 τ 100 0 0 100 0 = 0 := thr_0 τ 0
    generalize jw2 τ 100 0 0 = τ' at *
    have hR := hI0.2.2.2.2.2.1
    have hn := (tR_n hR).1
    have hc := hI0.2.2.2.2.1.2.2.1
    have hA := hI0.1
    have hr4 : ∀ {α : Type} (σ : JS) (k : Nat) (K : Int32 → Option α), jrd σ k 4 (nI s) K = K (σ k s) := fun σ k K => jrd_n σ k 4 s K hs4 (by decide)
    have bad : ∃ (ko : Nat) (vo : Int32) (σo : JS) (w : Int32) (τo : JS), some (2, 0, σ) = some (ko, vo, σo) ∧ (jbn (jst (jw2 τ' 100 0 2) fun σ1 => some ((0 : Int32), σ1)) fun q => some (q.1, q.2)) = some (w, τo) ∧ τo 100 0 = zR ko ∧ (ko = 0 → vo = w) ∧ JInv σo τo := ⟨2, 0, σ, 0, jw2 τ' 100 0 2, rfl, rfl, rfl, fun h => absurd h (by decide), J_thr 2 hJ0⟩
    simp only [hr4]
    rcases hI0.2.2.2.1 with ⟨u1, u2, u3⟩ | ⟨u1, u2, u3⟩
    · rw [u1, u2, if_neg n10, if_pos (show (0 : Int32) = 0 from rfl)]
      rcases hI0.2.2.2.2.2.2.1 s hs4 with ⟨k1, k2⟩ | ⟨k0, f, m, k1, k2, k3, k4, k5, k6, k7⟩
      · rw [k1, k2, if_pos rfl, if_pos (by decide)]
        exact bad
      · rw [k0, if_neg n10, k3, k4, if_neg (nI_pos (by omega)), H_on σ τ' n f hA.2.2.1 hA.1.1 hn (by omega), jbn_s, hA.1.2.1, M_on τ' (nI f) n hn, jbn_s]
        by_cases hm : mon τ' (nI f) n
        · rw [b2_t hm, if_neg n10, if_neg n10]
          exact bad
        · rw [b2_f hm, if_pos rfl, if_pos rfl, l8, pk_mul, l0, jcp_n _ _ _ _ _ _ _ _ _ (by omega) (by omega) (by decide) (by decide), show jwA σ 29 (va_cpy (σ 22) (σ 29) (s * 8) 0 8) 21 s = nI m from k6, k5, hA.1.1, nI_1]
          have hI3 : tI (jwA σ 29 (va_cpy (σ 22) (σ 29) (s * 8) 0 8)) τ' n c d w l a := tI_29 hI0 (fun q g => by unfold jwA; rw [if_neg g])
          rcases t_become hI3 u1 u2 k1 k2 hm (fun r hr _ => by rw [jwA_at, if_pos rfl, pk_cpy_in (by omega) (by omega), ← k7 r hr]; congr 1; omega) with ⟨e1, e2⟩ | ⟨v, σ', τ2, n', w', e1, e2, e3, e4, e5⟩
          · rw [e1, e2, jbn_s, jbn_s]
            exact ⟨2, 0, _, 0, jw2 τ' 100 0 2, rfl, rfl, rfl, fun h => absurd h (by decide), J_thr 2 ⟨n, c, d, w, l, a, hI3⟩⟩
          · rw [e1, e2, jbn_s, jbn_s, if_pos rfl, jwr_n _ _ _ _ _ _ (by omega) (by decide)]
            exact ⟨0, v, _, v, _, rfl, rfl, e4.trans t0, fun _ => rfl, n', c, d, w', l, a, tI_lim _ e3⟩
    · rw [u1, u2, if_pos rfl, if_neg n10]
      exact bad
  · rw [g1, g2, jbn_s, jbn_s, if_pos rfl, if_pos rfl]
    refine ⟨1, 0, σ, 0, jw2 τ 100 0 1, rfl, ?_, rfl, fun h => absurd h (by decide), hJ 1⟩
    unfold mM_restore_J15
    rw [jst_n, thr_0, if_neg (by decide)]
