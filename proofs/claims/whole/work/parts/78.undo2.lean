/-! an end, and a cycle taken back, on both sides -/
theorem t_end {σ τ : JS} {n c d w j : Nat} {k : Int32} (hn : n < 120) (hX : tX σ τ n c d w) (hj : j < 4) (hk : k ≠ 1) : ∃ (σ' τ' : JS), mJ_addEnd σ k (nI j) = some σ' ∧ mM_note τ k (nI j) 0 0 0 = some τ' ∧ tX σ' τ' (n + 1) c d w ∧ (∀ a, 14 < a → a ≠ 100 → σ' a = σ a) ∧ (∀ q, q ≠ 0 → σ' 100 q = σ 100 q) ∧ (∀ a, (a < 4 ∨ 9 < a) → a ≠ 100 → τ' a = τ a) ∧ (∀ q, q ≠ 2 → τ' 100 q = τ 100 q) ∧ jsame τ τ' n ∧ τ' 4 (n + 1) = k ∧ τ' 5 (n + 1) = nI j := by
  obtain ⟨⟨hJ, hC, hO, hV⟩, hD, hP, hQ⟩ := hX
  obtain ⟨d1, d2, d3, d4, d5, d6⟩ := jap_new τ n k (nI j) 0 0 0 0
  have hs := jap_same τ n k (nI j) 0 0 0 0
  have h4 : ¬ jap τ n k (nI j) 0 0 0 0 4 (n + 1) = 1 := by rw [d1]; exact hk
  have hr := hap_row σ n k (nI j) (σ 8 (n + 1)) (σ 9 (n + 1)) (σ 10 (n + 1)) j 0 0 0 (nI (mbo (jap τ n k (nI j) 0 0 0 0) (n + 1)))
  have h100 := hap_100 σ n k (nI j) (σ 8 (n + 1)) (σ 9 (n + 1)) (σ 10 (n + 1)) j 0 0 0 (nI (mbo (jap τ n k (nI j) 0 0 0 0) (n + 1)))
  have mr := jap_row τ n k (nI j) 0 0 0 0
  have m100 := jap_100 τ n k (nI j) 0 0 0 0
  have hv : ∀ f r : Int32, mvl (jap τ n k (nI j) 0 0 0 0) f r (n + 1) = mvl τ f r n := fun f r => by rw [mvl_new hs, if_neg (fun z => h4 z.1)]
  have hl : ∀ f r : Int32, mlt (jap τ n k (nI j) 0 0 0 0) f r (n + 1) = mlt τ f r n := fun f r => by rw [mlt, if_neg (fun z => h4 z.1), mlt_same _ _ hs]
  refine ⟨_, _, H_addE σ τ (jap τ n k (nI j) 0 0 0 0) n j k hJ.1 hn hj hC hs h4 d2, M_noteE τ n hJ.2.1 hn k (nI j) hk, ⟨⟨tJ_end hJ hj hk, tC_end hC hj hs h4 d2, tO_new hO hs, fun f r hf hr' => ?_⟩, ?_, fun f r hf hr' hm => ?_, fun f r hf hr' => ?_⟩, fun a h h2 => hr a (by omega) h2, fun q h => by rw [h100, if_neg h], fun a h h2 => mr a h h2, fun q h => by rw [m100, if_neg h], hs, d1, d2⟩
  · rw [hr 15 (by decide) (by decide), hv]
    exact hV f r hf hr'
  · obtain ⟨b1, b2, b3, b4, b5⟩ := hD
    refine ⟨by rw [h100, if_neg (by decide)]; exact b1, by rw [m100, if_neg (by decide)]; exact b2, b3, fun x hx => by rw [hr 16 (by decide) (by decide), mr 10 (by decide) (by decide)]; exact b4 x hx, fun i hi => ?_⟩
    obtain ⟨k', f', r', a1, a2, a3, a4, a5, a6, a7, a8, a9, a10⟩ := b5 i hi
    obtain ⟨g4, g5, g6, g7, g8, g9⟩ := hs k' (by omega) a3
    exact ⟨k', f', r', by rw [mr 11 (by decide) (by decide)]; exact a1, a2, by omega, by rw [g4]; exact a4, a5, a6, by rw [g6]; exact a7, by rw [g7]; exact a8, by rw [hr 17 (by decide) (by decide)]; exact a9, by rw [hr 18 (by decide) (by decide), g9]; exact a10⟩
  · rw [hl] at hm
    rw [hr 16 (by decide) (by decide), hv]
    exact hP f r hf hr' hm
  · rw [hr 16 (by decide) (by decide), hv, fw_cong (σ := σ) _ _ w (fun i _ => ⟨by rw [hr 17 (by decide) (by decide)], by rw [hr 18 (by decide) (by decide)]⟩)]
    exact hQ f r hf hr'
/-- what stays while a cycle of j is taken back -/
def tU (σ τ : JS) (n j c d : Nat) (σ1 τ1 : JS) (n1 w1 : Nat) : Prop := tX σ1 τ1 n1 c d w1 ∧ n ≤ n1 ∧ (∀ a, 18 < a → a ≠ 100 → σ1 a = σ a) ∧ (∀ q, q ≠ 0 → q ≠ 2 → σ1 100 q = σ 100 q) ∧ (∀ a, (a < 4 ∨ 11 < a) → a ≠ 100 → τ1 a = τ a) ∧ (∀ q, q ≠ 2 → q ≠ 6 → τ1 100 q = τ 100 q) ∧ jsame τ τ1 n ∧ (∀ i : Int32, i ≠ nI j → mcy τ1 i n1 = mcy τ i n ∧ mcn τ1 i n1 = mcn τ i n ∧ ∀ f : Int32, mce τ1 i (mof τ1 f) n1 = mce τ i (mof τ f) n) ∧ (∀ f r : Nat, f < 3 → σ 27 f ≠ -1 → mvl τ1 (nI f) (nI r) n1 = mvl τ (nI f) (nI r) n)
theorem tU_put {σ τ : JS} {n j c d : Nat} {σ1 τ1 : JS} {n1 w1 f r : Nat} (v : Int32) (hc : c ≤ 3) (hd : 8 * d ≤ n) (hU : tU σ τ n j c d σ1 τ1 n1 w1) (h1 : n1 < 120) (hj : j < 4) (hf : f < c) (hr : r < 8) (h27 : σ 27 f = -1) : ∃ (σ2 τ2 : JS) (w2 : Nat), mH_writeChange σ1 (nI j) (nI (8 * f + r)) v = some σ2 ∧ mM_put τ1 (nI j) (nI f) (nI r) v = some τ2 ∧ tU σ τ n j c d σ2 τ2 (n1 + 1) w2 := by
  obtain ⟨hX, u1, u2, u3, u4, u5, u6, u7, u8⟩ := hU
  obtain ⟨σ2, τ2, w2, e1, e2, X2, a1, a2, a3, a4, a5, a6, a7, a8, a9, a10, a11⟩ := t_put v hc (by omega) h1 hX hj hf hr
  refine ⟨σ2, τ2, w2, e1, e2, X2, by omega, fun a g1 g2 => ?_, fun q g1 g2 => by rw [a2 q g1 g2, u3 q g1 g2], fun a g1 g2 => by rw [a4 a g1 g2, u4 a g1 g2], fun q g1 g2 => by rw [a5 q g1 g2, u5 q g1 g2], fun k k1 k2 => ?_, fun i hi => ?_, fun f' r' hf' hne => ?_⟩
  · by_cases h : a = 27
    · subst h
      rw [← u2 27 (by decide) (by decide)]
      funext x
      rw [a3]
      by_cases hx : j ≠ 3 ∧ x = f
      · rw [if_pos hx, hx.2, u2 27 (by decide) (by decide), h27]
      · rw [if_neg hx]
    · rw [a1 a g1 h g2, u2 a g1 g2]
  · obtain ⟨z4, z5, z6, z7, z8, z9⟩ := a6 k k1 (by omega)
    obtain ⟨y4, y5, y6, y7, y8, y9⟩ := u6 k k1 k2
    rw [z4, z5, z6, z7, z8, z9]
    exact ⟨y4, y5, y6, y7, y8, y9⟩
  · have hne : ¬ τ2 5 (n1 + 1) = i := fun z => hi (by rw [← z, a8])
    obtain ⟨y1, y2, y3⟩ := u7 i hi
    exact ⟨by rw [mcy_new a6, if_neg hne, y1], by rw [mcn_new a6, if_neg hne, y2], fun f' => by rw [mce_new a6, if_neg hne, y3]⟩
  · rw [mvl_new a6, if_neg, u8 f' r' hf' hne]
    rintro ⟨-, z, -⟩
    rw [a9] at z
    exact hne (by rw [← nI_inj (by omega) (by omega) z]; exact h27)
theorem undo_L {σ τ : JS} {n j c d b : Nat} (hc : c ≤ 3) (hn : n ≤ 120) (hd : 8 * d ≤ n) (hj : j < 4) (hb : mcy τ (nI j) n = b + 1) (hsh : ∀ f : Nat, f < c → mce τ (nI j) (mof τ (nI f)) n = true → σ 27 f = -1) : ∀ (e fuel : Nat) (σ1 τ1 : JS) (n1 w1 : Nat), e < fuel → b + e ≤ n → tU σ τ n j c d σ1 τ1 n1 w1 → n1 + mcr τ (nI j) (b + 1) e ≤ 120 → ∃ (σ2 τ2 : JS) (w2 : Nat), (∀ K, mH_rollBack_L18 K (nI j) (nI (b + 1)) fuel σ1 (nI (b + e)) = K σ2 (nI b)) ∧ (∀ K, mM_undo_L15 K (nI j) (nI (b + 1)) fuel τ1 (nI (b + e)) = K τ2 (nI b)) ∧ tU σ τ n j c d σ2 τ2 (n1 + mcr τ (nI j) (b + 1) e) w2
  | e, 0, _, _, _, _, h, _, _, _ => absurd h (Nat.not_lt_zero _)
  | 0, fuel + 1, σ1, τ1, n1, w1, _, hbn, hU, _ => by
    have hle := mcy_le τ (nI j) n
    refine ⟨σ1, τ1, w1, fun K => ?_, fun K => ?_, hU⟩
    · rw [mH_rollBack_L18, if_pos (nI_lt (by omega) (by omega))]; rfl
    · rw [mM_undo_L15, if_pos (nI_lt (by omega) (by omega))]; rfl
  | e + 1, fuel + 1, σ1, τ1, n1, w1, hfu, hbn, hU, h120 => by
    have hle := mcy_le τ (nI j) n
    have hU2 := hU
    obtain ⟨hX, u1, u2, u3, u4, u5, u6, u7, u8⟩ := hU2
    obtain ⟨t1, t2, t3, t4⟩ := hX.1.1.2.2 (b + (e + 1)) (by omega) (by omega)
    obtain ⟨y4, y5, y6, y7, y8, y9⟩ := u6 (b + (e + 1)) (by omega) hbn
    rw [mcr_last, show b + 1 + e = b + (e + 1) by omega] at h120 ⊢
    have sH : ∀ K, mH_rollBack_L18 K (nI j) (nI (b + 1)) (fuel + 1) σ1 (nI (b + (e + 1))) = if σ1 6 (b + (e + 1)) = (1 : Int32) then (if σ1 7 (b + (e + 1)) = nI j then jbn (mH_writeChange σ1 (nI j) (σ1 8 (b + (e + 1))) (σ1 9 (b + (e + 1)))) fun q16 => mH_rollBack_L18 K (nI j) (nI (b + 1)) fuel q16 (nI (b + e)) else mH_rollBack_L18 K (nI j) (nI (b + 1)) fuel σ1 (nI (b + e))) else mH_rollBack_L18 K (nI j) (nI (b + 1)) fuel σ1 (nI (b + e)) := fun K => by
      rw [mH_rollBack_L18, if_neg (nI_nlt (by omega) (by omega)), jrd_n _ _ _ _ _ (by omega) (by decide), jrd_n _ _ _ _ _ (by omega) (by decide), jrd_n _ _ _ _ _ (by omega) (by decide), jrd_n _ _ _ _ _ (by omega) (by decide), show b + (e + 1) = (b + e) + 1 by omega, pk_m1]
    have sM : ∀ K, mM_undo_L15 K (nI j) (nI (b + 1)) (fuel + 1) τ1 (nI (b + (e + 1))) = if τ1 5 (b + (e + 1)) = nI j then jbn (mM_put τ1 (nI j) (τ1 6 (b + (e + 1))) (τ1 7 (b + (e + 1))) (τ1 8 (b + (e + 1)))) fun q15 => mM_undo_L15 K (nI j) (nI (b + 1)) fuel q15 (nI (b + e)) else mM_undo_L15 K (nI j) (nI (b + 1)) fuel τ1 (nI (b + e)) := fun K => by
      rw [mM_undo_L15, if_neg (nI_nlt (by omega) (by omega)), jrd_n _ _ _ _ _ (by omega) (by decide), jrd_n _ _ _ _ _ (by omega) (by decide), jrd_n _ _ _ _ _ (by omega) (by decide), jrd_n _ _ _ _ _ (by omega) (by decide), show b + (e + 1) = (b + e) + 1 by omega, pk_m1]
    by_cases h5 : τ 5 (b + (e + 1)) = nI j
    · rw [if_pos h5] at h120 ⊢
      have h4 : τ 4 (b + (e + 1)) = 1 := mcy_kd τ (nI j) n (b + (e + 1)) (by omega) (by omega) hbn h5
      obtain ⟨b1, b2, b3, f, r, hf, hr, g6, g7, g8⟩ := t4 (by rw [y4]; exact h4)
      have h27 : σ 27 f = -1 := hsh f hf ((mce_iff τ (nI j) _ n).mpr ⟨by omega, b + (e + 1), by omega, hbn, h5, decide_eq_true (by rw [← y6]; exact g6)⟩)
      obtain ⟨σ2, τ2, w2, e1, e2, hU3⟩ := tU_put (τ1 8 (b + (e + 1))) hc hd hU (by omega) hj hf hr h27
      obtain ⟨σ3, τ3, w3, k1, k2, k3⟩ := undo_L hc hn hd hj hb hsh e fuel σ2 τ2 (n1 + 1) w2 (by omega) (by omega) hU3 (by omega)
      refine ⟨σ3, τ3, w3, fun K => ?_, fun K => ?_, ?_⟩
      · rw [sH, if_pos (by rw [t1, y4]; exact h4), if_pos (by rw [t2, y5]; exact h5), g8, b1, e1, jbn_s, k1]
      · rw [sM, if_pos (by rw [y5]; exact h5), g6, g7, e2, jbn_s, k2]
      · rw [show n1 + (mcr τ (nI j) (b + 1) e + 1) = n1 + 1 + mcr τ (nI j) (b + 1) e by omega]
        exact k3
    · rw [if_neg h5] at h120 ⊢
      obtain ⟨σ3, τ3, w3, k1, k2, k3⟩ := undo_L hc hn hd hj hb hsh e fuel σ1 τ1 n1 w1 (by omega) (by omega) hU (by omega)
      refine ⟨σ3, τ3, w3, fun K => ?_, fun K => ?_, k3⟩
      · rw [sH, if_neg (show ¬ σ1 7 (b + (e + 1)) = nI j by rw [t2, y5]; exact h5), ite_self, k1]
      · rw [sM, if_neg (show ¬ τ1 5 (b + (e + 1)) = nI j by rw [y5]; exact h5), k2]
theorem t_undo {σ τ : JS} {n j c d w : Nat} (hc : c ≤ 3) (hd : 8 * d ≤ n) (hX : tX σ τ n c d w) (hj : j < 4) (hb : 0 < mcy τ (nI j) n) (hsh : ∀ f : Nat, f < c → mce τ (nI j) (mof τ (nI f)) n = true → σ 27 f = -1) (hroom : n + mcn τ (nI j) n + 1 ≤ 120) : ∃ (σ' τ' : JS) (w' : Nat), mH_rollBack σ (nI j) = some σ' ∧ mM_undo τ (nI j) = some τ' ∧ tU σ τ n j c d σ' τ' (n + mcn τ (nI j) n + 1) w' ∧ mcy τ' (nI j) (n + mcn τ (nI j) n + 1) = 0 := by
  obtain ⟨b, hb1⟩ : ∃ b, mcy τ (nI j) n = b + 1 := ⟨mcy τ (nI j) n - 1, by omega⟩
  have hle := mcy_le τ (nI j) n
  have hm := mcr_mcn τ (nI j) n hb
  rw [hb1, show n + 1 - (b + 1) = n - b by omega] at hm
  have hU0 : tU σ τ n j c d σ τ n w := ⟨hX, Nat.le_refl _, fun _ _ _ => rfl, fun _ _ _ => rfl, fun _ _ _ => rfl, fun _ _ _ => rfl, fun _ _ _ => ⟨rfl, rfl, rfl, rfl, rfl, rfl⟩, fun _ _ => ⟨rfl, rfl, fun _ => rfl⟩, fun _ _ _ _ => rfl⟩
  obtain ⟨σ2, τ2, w2, k1, k2, hU2⟩ := undo_L hc (by omega) hd hj hb1 hsh (n - b) 999 σ τ n w (by omega) (by omega) hU0 (by omega)
  rw [hm] at hU2
  rw [show b + (n - b) = n by omega] at k1 k2
  obtain ⟨hX2, u1, u2, u3, u4, u5, u6, u7, u8⟩ := hU2
  obtain ⟨σ3, τ3, e1, e2, X3, a1, a2, a3, a4, a5, a6, a7⟩ := t_end (k := 3) (by omega) hX2 hj (by decide)
  have h4 : ¬ τ3 4 (n + mcn τ (nI j) n + 1) = 1 := by rw [a6]; decide
  refine ⟨σ3, τ3, w2, ?_, ?_, ⟨X3, by omega, fun a g1 g2 => by rw [a1 a (by omega) g2, u2 a g1 g2], fun q g1 g2 => by rw [a2 q g1, u3 q g1 g2], fun a g1 g2 => by rw [a3 a (by omega) g2, u4 a g1 g2], fun q g1 g2 => by rw [a4 q g1, u5 q g1 g2], fun k q1 q2 => ?_, fun i hi => ?_, fun f' r' hf' hne => ?_⟩, ?_⟩
  · unfold mH_rollBack
    rw [jrd_n _ _ _ _ _ (by omega) (by decide), (hX.1.2.1 j hj).1, hb1, hX.1.1.1, k1, e1, jbn_s]
  · unfold mM_undo
    rw [hX.1.1.2.1, M_cyc τ (nI j) n (by omega), jbn_s, hb1, k2, e2, jbn_s]
  · obtain ⟨z4, z5, z6, z7, z8, z9⟩ := a5 k q1 (by omega)
    obtain ⟨y4, y5, y6, y7, y8, y9⟩ := u6 k q1 q2
    rw [z4, z5, z6, z7, z8, z9]
    exact ⟨y4, y5, y6, y7, y8, y9⟩
  · have hne : ¬ τ3 5 (n + mcn τ (nI j) n + 1) = i := fun z => hi (by rw [← z, a7])
    obtain ⟨y1, y2, y3⟩ := u7 i hi
    exact ⟨by rw [mcy_new a5, if_neg hne, y1], by rw [mcn_new a5, if_neg hne, y2], fun f' => by rw [mce_new a5, if_neg hne, y3]⟩
  · rw [mvl_new a5, if_neg (fun z => h4 z.1), u8 f' r' hf' hne]
  · rw [mcy_new a5, if_pos a7, if_neg h4]
