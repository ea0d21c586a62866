theorem t_bc {σ τ σ3 τ3 : JS} {n c d w l a f m z n3 w3 : Nat} (h : tI σ τ n c d w l a) (hu : σ 100 8 = 1) (hv : τ 100 5 = 0) (hf : f < c) (hm : m ≤ n) (hz : τ 1 f = nI z) (hz8 : z ≤ 8) (hon : ¬ mon τ (nI f) n) (hX : tX σ3 τ3 n3 c d w3) (hn3 : n ≤ n3) (u2 : ∀ a, 18 < a → a ≠ 100 → σ3 a = σ a) (u3 : ∀ q, q ≠ 0 → q ≠ 2 → σ3 100 q = σ 100 q) (u4 : ∀ a, (a < 4 ∨ 11 < a) → a ≠ 100 → τ3 a = τ a) (u5 : ∀ q, q ≠ 2 → q ≠ 6 → τ3 100 q = τ 100 q) (u6 : jsame τ τ3 n) (u7 : ∀ i : Int32, i ≠ nI 3 → mcy τ3 i n3 = mcy τ i n ∧ mcn τ3 i n3 = mcn τ i n ∧ ∀ f : Int32, mce τ3 i (mof τ3 f) n3 = mce τ i (mof τ f) n) (h3 : mcy τ3 (nI 3) n3 = 0) (u8 : ∀ g r' : Nat, g < 3 → r' < 8 → mvl τ3 (nI g) (nI r') n3 = if g = f ∧ r' < z then mvl τ (nI f) (nI r') m else mvl τ (nI g) (nI r') n) (hcap : n3 + mrs τ n ≤ mcap d) : tI (jw2 σ3 27 f (nI m)) (jw2 τ3 2 f (nI m)) n3 c d w3 l a := by
  have hR := h.2.2.2.2.2.1
  have hn := (tR_n hR).1
  obtain ⟨f1, f2, f3, f4, f5, f6⟩ := h.2.2.2.2.1
  have hσ : ∀ q, q ≠ 27 → jw2 σ3 27 f (nI m) q = σ3 q := fun q g => by unfold jw2; rw [if_neg g]
  have hτ : ∀ q, q ≠ 2 → jw2 τ3 2 f (nI m) q = τ3 q := fun q g => by unfold jw2; rw [if_neg g]
  have hs3 : ∀ k, jsame τ3 (jw2 τ3 2 f (nI m)) k := fun k => jsame_rows (fun q g1 g2 => hτ q (by omega)) k
  have hs : jsame τ (jw2 τ3 2 f (nI m)) n := fun k k1 k2 => u6 k k1 k2
  have hne : ∀ i : Nat, i < 4 → i ≠ 3 → nI i ≠ nI 3 := fun i hi z q => z (nI_inj (by omega) (by omega) q)
  have hmob : ∀ g : Int32, mob τ g n = false → mob (jw2 τ3 2 f (nI m)) g n3 = false := fun g hg => by
    rw [mob_same _ (hs3 n3)]
    have e : ∀ i : Nat, i < 4 → mce τ3 (nI i) (mof τ3 g) n3 = false := fun i hi => by
      by_cases hi3 : i = 3
      · subst hi3
        exact mce_cy0 _ _ _ _ h3
      · rw [(u7 (nI i) (hne i hi hi3)).2.2]
        exact mob_f hg i hi
    unfold mob
    rw [e 0 (by omega), e 1 (by omega), e 2 (by omega), e 3 (by omega)]
    rfl
  obtain ⟨hA, hD, hP, hQ⟩ := hX
  have hX2 : tX (jw2 σ3 27 f (nI m)) (jw2 τ3 2 f (nI m)) n3 c d w3 := ⟨tA_fr (fun q g1 g2 => hσ q (by omega)) rfl (fun q g1 g2 => hτ q (by omega)) rfl hA, tD_fr (fun q g1 g2 => hσ q (by omega)) rfl (fun q g1 g2 => hτ q (by omega)) rfl hD, tP_fr (hσ 16 (by decide)) (fun q g1 g2 => hτ q (by omega)) hP, tQ_fr (fun q g1 g2 => hσ q (by omega)) (fun q g1 g2 => hτ q (by omega)) hQ⟩
  refine tI_step h hu hv hX2 hn3 hs (fun q g1 g2 => by rw [hσ q (by omega), u2 q g1 (by omega)]) (fun q g1 g2 => by rw [hσ 100 (by decide), u3 q g1 g2]) (fun q g1 g2 => by rw [hτ q (by omega), u4 q (by omega) (by omega)]) (fun q g0 g1 g2 => by rw [hτ 100 (by decide), u5 q g1 g2]) ?_ ?_
  · have s27 : ∀ x, jw2 σ3 27 f (nI m) 27 x = if x = f then nI m else σ 27 x := fun x => by rw [jw2_at, if_pos rfl, u2 27 (by decide) (by decide)]
    have m2 : ∀ x, jw2 τ3 2 f (nI m) 2 x = if x = f then nI m else τ 2 x := fun x => by rw [jw2_at, if_pos rfl, u4 2 (by decide) (by decide)]
    refine ⟨by rw [hσ 100 (by decide), u3 6 (by decide) (by decide)]; exact f1, by rw [hτ 100 (by decide), u5 1 (by decide) (by decide)]; exact f2, f3, fun g hg => ?_, fun g hg => ?_, fun g hg => ?_⟩
    · rw [s27, m2, hσ 28 (by decide), u2 28 (by decide) (by decide), hτ 3 (by decide), u4 3 (by decide) (by decide), (f4 g hg).1]
      exact ⟨rfl, (f4 g hg).2⟩
    · rw [hσ 26 (by decide), u2 26 (by decide) (by decide), hτ 1 (by decide), u4 1 (by decide) (by decide)]
      exact f5 g hg
    · unfold tS
      rw [s27, hτ 1 (by decide), u4 1 (by decide) (by decide)]
      by_cases hgf : g = f
      · subst hgf
        rw [if_pos rfl]
        refine Or.inr ⟨m, by omega, rfl, hmob _ ?_, fun r hr hlt => ?_⟩
        · rw [mon_mob] at hon
          simpa using hon
        · rw [hz] at hlt
          have hrz := (nI_ltI (by omega) (by omega)).mp hlt
          rw [mvl_same _ _ (hs.lt hm), mvl_same _ _ (hs3 _), u8 g r (by omega) hr, if_pos ⟨rfl, hrz⟩]
      · rw [if_neg hgf]
        rcases f6 g hg with q | ⟨m', q3, q4, q5, q6⟩
        · exact Or.inl q
        · exact Or.inr ⟨m', by omega, q4, hmob _ q5, fun r hr hlt => by rw [mvl_same _ _ (hs.lt q3), mvl_same _ _ (hs3 _), u8 g r (by omega) hr, if_neg (fun q => hgf q.1)]; exact q6 r hr hlt⟩
  · obtain ⟨r1, r2, r3, r4, r5, r6⟩ := hR
    have hmrs : mrs τ3 n3 = mrs τ n := by
      have e : ∀ i : Nat, i < 4 → mr1 τ3 i n3 = mr1 τ i n := fun i hi => by
        unfold mr1
        by_cases hi3 : i = 3
        · subst hi3
          rw [(mcn_mcy τ3 (nI 3) n3).mpr h3, (mcn_mcy τ (nI 3) n).mpr r5]
        · rw [(u7 (nI i) (hne i hi hi3)).2.1]
      unfold mrs
      rw [e 0 (by omega), e 1 (by omega), e 2 (by omega), e 3 (by omega)]
    refine ⟨by rw [hσ 100 (by decide), u3 1 (by decide) (by decide)]; exact r1, by rw [hτ 100 (by decide), u5 3 (by decide) (by decide)]; exact r2, by omega, by rw [mrs_same (hs3 _), hmrs]; exact hcap, by rw [mcy_same _ (hs3 _)]; exact h3, fun i hi => ?_⟩
    rw [mcy_same _ (hs3 _)]
    by_cases hi3 : i = 3
    · rw [hi3]; exact Or.inl h3
    · rw [(u7 (nI i) (hne i hi hi3)).1]; exact r6 i hi
theorem t_become {σ τ : JS} {n c d w l a f m : Nat} (h : tI σ τ n c d w l a) (hu : σ 100 8 = 1) (hv : τ 100 5 = 0) (hf : f < c) (hm : m ≤ n) (hon : ¬ mon τ (nI f) n) (h29 : ∀ r : Nat, r < 8 → nI r < τ 1 f → σ 29 r = mvl τ (nI f) (nI r) m) : (mH_bringToWanted σ (nI f) (nI m) = some (2, 0, σ) ∧ ∀ x3, mM_become τ (nI f) (nI m) x3 = some (0, jw2 τ 100 0 2)) ∨ ∃ (v : Int32) (σ' τ' : JS) (n' w' : Nat), mH_bringToWanted σ (nI f) (nI m) = some (0, v, σ') ∧ (∀ x3, mM_become τ (nI f) (nI m) x3 = some (v, jw2 τ' 3 f x3)) ∧ tI σ' τ' n' c d w' l a ∧ τ' 100 0 = τ 100 0 ∧ τ' 3 = τ 3 := by
  have hR := h.2.2.2.2.2.1
  obtain ⟨hn, hd15⟩ := tR_n hR
  have hX := tI_X h hu
  have hF := h.2.2.2.2.1
  have hc := hF.2.2.1
  obtain ⟨z, z1, z2, z3, z4⟩ := hF.2.2.2.2.1 f hf
  have hA := h.1
  have hcap := mcap_le d
  have h29' : ∀ r : Nat, r < z → σ 29 r = mvl τ (nI f) (nI r) m := fun r hr => h29 r (by omega) (by rw [z4]; exact nI_lt hr (by omega))
  have hkz := mcu_le τ (nI f) m n z
  have hrs := hR.2.2.2.1
  have hcount : mH_countUnwanted σ (nI f) = some (nI (mcu τ (nI f) m n z)) := by
    unfold mH_countUnwanted
    exact H_cu_L σ τ f m n z (by omega) z2 z3 (fun r hr => hA.2.2.2 f r (by omega) hr) h29' z 0 999 (by omega) (by omega)
  have hB0 : tB σ τ n c d f m 0 σ τ (n + mcu τ (nI f) m n 0) w := ⟨hX, Nat.le_refl _, fun _ _ _ => rfl, fun _ _ _ => rfl, fun _ _ _ => rfl, fun _ _ _ => rfl, fun _ _ _ => ⟨rfl, rfl, rfl, rfl, rfl, rfl⟩, fun _ _ => ⟨rfl, rfl, fun _ => rfl⟩, fun g r' _ _ => by rw [if_neg (by omega)]; rfl⟩
  have hmod : ∀ x3, mM_become τ (nI f) (nI m) x3 = if nI (mcu τ (nI f) m n z) ≤ 0 then mM_become_J87 τ (nI f) (nI m) x3 (nI n) (nI (mcu τ (nI f) m n z)) else jbn (mM_room τ) fun q35 => jbn (mM_reserve τ) fun q37 => if q37 ≤ ((q35 - nI (mcu τ (nI f) m n z)) - (1 : Int32)) then mM_become_J87 τ (nI f) (nI m) x3 (nI n) (nI (mcu τ (nI f) m n z)) else (jbn (mM_refuse τ (2 : Int32)) fun q39 => some (q39.1, q39.2)) := fun x3 => by
    unfold mM_become
    rw [hA.1.2.1]
    exact M_cu_L _ τ f m n z x3 (by omega) z2 (by omega) hn z4 z 0 999 (by omega) (by omega)
  have hH : mH_bringToWanted σ (nI f) (nI m) = jbn (mJ_refusesOwnChanges σ (nI (mcu τ (nI f) m n z))) fun q3 => if q3 = 0 then (mH_bringToWanted_L28 (fun σ21 z22 => if nI (mcu τ (nI f) m n z) ≤ 0 then (jwr σ21 27 3 (nI f) (nI m) fun σ23 => some (0, nI (mcu τ (nI f) m n z), σ23)) else (jbn (mJ_addEnd σ21 (2 : Int32) (3 : Int32)) fun q26 => jwr q26 27 3 (nI f) (nI m) fun σ28 => some (0, nI (mcu τ (nI f) m n z), σ28))) (nI f) (nI m) (nI (mcu τ (nI f) m n z)) 999 σ (0 : Int32)) else (some (2, 0, σ)) := by
    unfold mH_bringToWanted
    rw [hcount, jbn_s]
  rw [hH]
  unfold mJ_refusesOwnChanges
  by_cases hk : mcu τ (nI f) m n z = 0
  · rw [if_pos (show nI (mcu τ (nI f) m n z) ≤ 0 by rw [hk]; decide), jbn_s, if_pos rfl]
    obtain ⟨σ1, τ1, w1, k1, k2, k3⟩ := bring_L (nI m) (nI (mcu τ (nI f) m n z)) hc hR.2.2.1 hf z2 hm z3 z4 h29' (by omega) z 0 999 999 σ τ w (by omega) (by omega) (by omega) hB0
    obtain ⟨X, u1, u2, u3, u4, u5, u6, u7, u8⟩ := k3
    rw [hk, Nat.add_zero] at X u7 u8
    have hT := t_bc h hu hv hf hm z4 z2 hon X (Nat.le_refl _) u2 u3 u4 u5 u6 u7 (by rw [mcy_same _ u6]; exact hR.2.2.2.2.1) u8 hrs
    refine Or.inr ⟨nI (mcu τ (nI f) m n z), jw2 σ1 27 f (nI m), jw2 τ1 2 f (nI m), n, w1, ?_, fun x3 => ?_, hT, u5 0 (by decide) (by decide), ?_⟩
    · have e := k1 (fun σ21 z22 => if nI (mcu τ (nI f) m n z) ≤ 0 then (jwr σ21 27 3 (nI f) (nI m) fun σ23 => some (0, nI (mcu τ (nI f) m n z), σ23)) else (jbn (mJ_addEnd σ21 (2 : Int32) (3 : Int32)) fun q26 => jwr q26 27 3 (nI f) (nI m) fun σ28 => some (0, nI (mcu τ (nI f) m n z), σ28)))
      rw [nI_0] at e
      rw [e, if_pos (show nI (mcu τ (nI f) m n z) ≤ 0 by rw [hk]; decide), jwr_n _ _ _ _ _ _ (by omega) (by decide)]
    · have e := k2 (fun σ19 z20 => if nI (mcu τ (nI f) m n z) ≤ 0 then (jwr σ19 2 3 (nI f) (nI m) fun σ21 => jwr σ21 3 3 (nI f) x3 fun σ24 => some (nI (mcu τ (nI f) m n z), σ24)) else (jbn (mM_note σ19 (2 : Int32) (3 : Int32) (0 : Int32) (0 : Int32) (0 : Int32)) fun q27 => jwr q27 2 3 (nI f) (nI m) fun σ29 => jwr σ29 3 3 (nI f) x3 fun σ32 => some (nI (mcu τ (nI f) m n z), σ32))) x3
      rw [nI_0] at e
      rw [hmod, if_pos (show nI (mcu τ (nI f) m n z) ≤ 0 by rw [hk]; decide)]
      unfold mM_become_J87
      rw [e, if_pos (show nI (mcu τ (nI f) m n z) ≤ 0 by rw [hk]; decide), jwr_n _ _ _ _ _ _ (by omega) (by decide), jwr_n _ _ _ _ _ _ (by omega) (by decide)]
    · rw [show jw2 τ1 2 f (nI m) 3 = τ1 3 from rfl]
      exact u4 3 (by decide) (by decide)
  · have hk0 : ¬ nI (mcu τ (nI f) m n z) ≤ 0 := nI_nle (by omega) (by omega)
    rw [if_neg hk0, H_room σ n d hA.1.1 hR.1 (by omega), jbn_s, H_res σ τ n hA.2.1 hn hR.2.2.2.2.1, jbn_s, pk_sub (show n ≤ mcap d by omega)]
    have hq : (nI (mrs τ n) ≤ (nI (mcap d - n) - nI (mcu τ (nI f) m n z)) - 1) ↔ mrs τ n + mcu τ (nI f) m n z + 1 ≤ mcap d - n := room_le (by omega) (by omega) (by omega)
    by_cases hfit : mrs τ n + mcu τ (nI f) m n z + 1 ≤ mcap d - n
    · rw [if_pos (hq.mpr hfit), jbn_s, if_pos rfl]
      obtain ⟨σ1, τ1, w1, k1, k2, k3⟩ := bring_L (nI m) (nI (mcu τ (nI f) m n z)) hc hR.2.2.1 hf z2 hm z3 z4 h29' (by omega) z 0 999 999 σ τ w (by omega) (by omega) (by omega) hB0
      obtain ⟨X, u1, u2, u3, u4, u5, u6, u7, u8⟩ := k3
      obtain ⟨σ3, τ3, e1, e2, X3, a1, a2, a3, a4, a5, a6, a7⟩ := t_end (j := 3) (k := 2) (by omega) X (by omega) (by decide)
      have h4 : ¬ τ3 4 (n + mcu τ (nI f) m n z + 1) = 1 := by rw [a6]; decide
      have hs3 : jsame τ τ3 n := fun k q1 q2 => by
        obtain ⟨y4, y5, y6, y7, y8, y9⟩ := a5 k q1 (by omega)
        obtain ⟨p4, p5, p6, p7, p8, p9⟩ := u6 k q1 q2
        rw [y4, y5, y6, y7, y8, y9]
        exact ⟨p4, p5, p6, p7, p8, p9⟩
      have hT := t_bc h hu hv hf hm z4 z2 hon X3 (by omega) (fun q g1 g2 => by rw [a1 q (by omega) g2, u2 q g1 g2]) (fun q g1 g2 => by rw [a2 q g1, u3 q g1 g2]) (fun q g1 g2 => by rw [a3 q (by omega) g2, u4 q g1 g2]) (fun q g1 g2 => by rw [a4 q g1, u5 q g1 g2]) hs3 (fun i hi => by
        have hne : ¬ τ3 5 (n + mcu τ (nI f) m n z + 1) = i := fun q => hi (by rw [← q, a7])
        obtain ⟨y1, y2, y3⟩ := u7 i hi
        exact ⟨by rw [mcy_new a5, if_neg hne, y1], by rw [mcn_new a5, if_neg hne, y2], fun f' => by rw [mce_new a5, if_neg hne, y3]⟩) (by rw [mcy_new a5, if_pos a7, if_neg h4]) (fun g r' hg hr' => by rw [mvl_new a5, if_neg (fun q => h4 q.1)]; exact u8 g r' hg hr') (by omega)
      refine Or.inr ⟨nI (mcu τ (nI f) m n z), jw2 σ3 27 f (nI m), jw2 τ3 2 f (nI m), _, w1, ?_, fun x3 => ?_, hT, ?_, ?_⟩
      · have e := k1 (fun σ21 z22 => if nI (mcu τ (nI f) m n z) ≤ 0 then (jwr σ21 27 3 (nI f) (nI m) fun σ23 => some (0, nI (mcu τ (nI f) m n z), σ23)) else (jbn (mJ_addEnd σ21 (2 : Int32) (3 : Int32)) fun q26 => jwr q26 27 3 (nI f) (nI m) fun σ28 => some (0, nI (mcu τ (nI f) m n z), σ28)))
        rw [nI_0] at e
        rw [e, if_neg hk0, show (3 : Int32) = nI 3 from rfl, e1, jbn_s, jwr_n _ _ _ _ _ _ (by omega) (by decide)]
      · have e := k2 (fun σ19 z20 => if nI (mcu τ (nI f) m n z) ≤ 0 then (jwr σ19 2 3 (nI f) (nI m) fun σ21 => jwr σ21 3 3 (nI f) x3 fun σ24 => some (nI (mcu τ (nI f) m n z), σ24)) else (jbn (mM_note σ19 (2 : Int32) (3 : Int32) (0 : Int32) (0 : Int32) (0 : Int32)) fun q27 => jwr q27 2 3 (nI f) (nI m) fun σ29 => jwr σ29 3 3 (nI f) x3 fun σ32 => some (nI (mcu τ (nI f) m n z), σ32))) x3
        rw [nI_0] at e
        rw [hmod, if_neg hk0, M_room τ n d hA.1.2.1 hR.2.1 (by omega), jbn_s, M_res τ n hA.1.2.1 hn, jbn_s, pk_sub (show n ≤ mcap d by omega), if_pos (hq.mpr hfit)]
        unfold mM_become_J87
        rw [e, if_neg hk0, show (3 : Int32) = nI 3 from rfl, e2, jbn_s, jwr_n _ _ _ _ _ _ (by omega) (by decide), jwr_n _ _ _ _ _ _ (by omega) (by decide)]
      · rw [show jw2 τ3 2 f (nI m) 100 0 = τ3 100 0 from rfl, a4 0 (by decide), u5 0 (by decide) (by decide)]
      · rw [show jw2 τ3 2 f (nI m) 3 = τ3 3 from rfl, a3 3 (by decide) (by decide), u4 3 (by decide) (by decide)]
    · rw [if_neg (fun g => hfit (hq.mp g)), jbn_s, if_neg n10]
      refine Or.inl ⟨rfl, fun x3 => ?_⟩
      rw [hmod, if_neg hk0, M_room τ n d hA.1.2.1 hR.2.1 (by omega), jbn_s, M_res τ n hA.1.2.1 hn, jbn_s, pk_sub (show n ≤ mcap d by omega), if_neg (fun g => hfit (hq.mp g))]
      rfl
theorem tI_29 {σ σ' τ : JS} {n c d w l a : Nat} (h : tI σ τ n c d w l a) (hσ : ∀ q, q ≠ 29 → σ' q = σ q) : tI σ' τ n c d w l a :=
  tI_L h (fun q g => hσ q (by omega)) (fun q _ _ _ => by rw [hσ 100 (by decide)]) (fun _ _ => rfl) (fun _ _ _ _ _ => rfl) (tL_fr (fun q g1 g2 => hσ q (by omega)) (fun q _ _ => by rw [hσ 100 (by decide)]) (fun _ _ _ => rfl) (fun _ _ _ => rfl) (fun _ _ _ => ⟨rfl, rfl, rfl, rfl, rfl, rfl⟩) (Nat.le_refl _) h.2.2.2.2.2.2.2.1)
theorem tI_lim {σ τ : JS} {n c d w l a f : Nat} (x : Int32) (h : tI σ τ n c d w l a) : tI (jw2 σ 28 f x) (jw2 τ 3 f x) n c d w l a := by
  have hσ : ∀ q, q ≠ 28 → jw2 σ 28 f x q = σ q := fun q g => by unfold jw2; rw [if_neg g]
  have hτ : ∀ q, q ≠ 3 → jw2 τ 3 f x q = τ q := fun q g => by unfold jw2; rw [if_neg g]
  have hs : ∀ m, jsame τ (jw2 τ 3 f x) m := fun m => jsame_rows (fun q g1 g2 => hτ q (by omega)) m
  have hF := h.2.2.2.2.1
  refine tI_fr h (fun q g1 g2 => hσ q (by omega)) (fun q g => by rw [hσ 100 (by decide)]) (fun q g1 g2 => hτ q (by omega)) (fun q g => by rw [hτ 100 (by decide)]) (Nat.le_refl _) ?_ (tK_fr (fun q g1 g2 => hσ q (by omega)) (fun q g1 g2 => hτ q (by omega)) (hs _) (Nat.le_refl _) (Nat.le_refl _) h.2.2.2.2.2.2.1) (tL_fr (fun q g1 g2 => hσ q (by omega)) (fun q _ _ => by rw [hσ 100 (by decide)]) (fun q g1 g2 => hτ q (by omega)) (fun q _ _ => by rw [hτ 100 (by decide)]) (hs _) (Nat.le_refl _) h.2.2.2.2.2.2.2.1) (by rw [hσ 100 (by decide), hτ 100 (by decide)]; exact h.2.2.2.2.2.2.2.2)
  obtain ⟨f1, f2, f3, f4, f5, f6⟩ := hF
  refine ⟨f1, f2, f3, fun g hg => ?_, f5, fun g hg => ?_⟩
  · refine ⟨(f4 g hg).1, ?_⟩
    rw [jw2_at, if_pos rfl, jw2_at, if_pos rfl, (f4 g hg).2]
  · rcases f6 g hg with q | ⟨m', q3, q4, q5, q6⟩
    · exact Or.inl q
    · exact Or.inr ⟨m', q3, q4, by rw [mob_same _ (hs _)]; exact q5, fun r hr hlt => by rw [mvl_same _ _ (hs _), mvl_same _ _ (hs _)]; exact q6 r hr hlt⟩
