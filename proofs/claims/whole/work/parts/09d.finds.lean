/-! SEARCHES FOR THE BEST, in lockstep -/
section PX
variable {n nl r t h : Nat} {c : Int32} {sk sm : ST}
theorem Rel.age (R : Rel n c nl r t h sk sm) {f : Nat} (hf : f < 12) : (sk 8 f = 0 ∧ ag sk f = -1) ∨ (sk 8 f ≠ 0 ∧ ∃ a, a ≤ 50000 ∧ ag sk f = nI a) := by
  obtain ⟨⟨-, -, ⟨e1, -, ht⟩, -⟩, -, h3, -⟩ := R
  obtain ⟨-, -, -, -, ⟨u, hu, e2⟩, -⟩ := h3 f hf
  unfold ag
  by_cases h0 : sk 8 f = 0
  · exact Or.inl ⟨h0, by rw [if_pos h0]⟩
  · exact Or.inr ⟨h0, t - u, by omega, by rw [if_neg h0, e1, e2, pk_sub hu]⟩
theorem pz_m1le {a : Nat} (ha : a < 2000000000) : (-1 : Int32) ≤ nI a := by
  rw [Int32.le_iff_toInt_le, nI_toInt (by omega)]
  have h2 : (-1 : Int32).toInt = -1 := rfl
  omega
theorem pz_nlem1 {a : Nat} (ha : a < 2000000000) : ¬ nI a ≤ (-1 : Int32) := by
  rw [Int32.le_iff_toInt_le, nI_toInt (by omega)]
  have h2 : (-1 : Int32).toInt = -1 := rfl
  omega
theorem pz_m1m1 : (-1 : Int32) ≤ -1 := by decide
theorem Rel.s_oldest (R : Rel n c nl r t h sk sm) (x : Int32) : ∃ v, FX0_oldestFrame x sk = some (0, v, sk) ∧ FX1_oldestOf x sm = some (0, v, sm) ∧ (v = -1 ∨ ∃ g, g < 12 ∧ v = nI g ∧ sk 6 g = x ∧ sk 8 g ≠ 0) := by
  have loop : ∀ (j k fu : Nat) (v w : Int32), j + k = 12 → j < fu → ((v = -1 ∧ w = -1) ∨ ∃ g, g < 12 ∧ v = nI g ∧ sk 6 g = x ∧ sk 8 g ≠ 0 ∧ w = ag sk g) → ∃ z, FX0_oldestFrame_w7 fu x v w (nI k) sk = some (0, z, sk) ∧ FX1_oldestOf_w4 fu x v (nI k) sm = some (0, z, sm) ∧ (z = -1 ∨ ∃ g, g < 12 ∧ z = nI g ∧ sk 6 g = x ∧ sk 8 g ≠ 0) := by
    intro j
    induction j with
    | zero =>
      intro k fu v w hk hf hi
      obtain ⟨f, rfl⟩ : ∃ f, fu = f + 1 := ⟨fu - 1, by omega⟩
      obtain rfl : k = 12 := by omega
      exact ⟨v, by rw [FX0_oldestFrame_w7, if_pos (by decide)], by rw [FX1_oldestOf_w4, if_pos (by decide)], hi.elim (fun q => Or.inl q.1) (fun ⟨g, a1, a2, a3, a4, _⟩ => Or.inr ⟨g, a1, a2, a3, a4⟩)⟩
    | succ j ih =>
      intro k fu v w hk hf hi
      obtain ⟨f, rfl⟩ : ∃ f, fu = f + 1 := ⟨fu - 1, by omega⟩
      have hk12 : k < 12 := by omega
      have n12 : ¬ (12 : Int32) ≤ nI k := by rw [pz_le12 (by omega)]; omega
      have g12 : ∀ o, gd (oz_in (nI k) 12) o = o := fun o => pz_gd hk12 (by omega)
      rw [FX0_oldestFrame_w7, FX1_oldestOf_w4, if_neg n12, if_neg n12, g12, pz_tn (by omega), R.f1_holderOf hk12, pz_bnd]
      by_cases h1 : sk 6 k = x
      · rw [if_pos h1, if_pos h1, F0_ageOf_in hk12, pz_bnd, F0_ageOf_in hk12, pz_bnd, R.f1_hasPage hk12, pz_bnd]
        rcases R.age hk12 with ⟨a1, a2⟩ | ⟨a1, a, a2, a3⟩
        · have hle : ag sk k ≤ w := by
            rw [a2]
            rcases hi with ⟨-, q⟩ | ⟨g, b1, b2, b3, b4, b5⟩
            · rw [q]; exact pz_m1m1
            · rcases R.age b1 with ⟨d1, -⟩ | ⟨-, d, d2, d3⟩
              · exact absurd d1 b4
              · rw [b5, d3]; exact pz_m1le (by omega)
          rw [if_pos hle, if_pos a1, if_pos rfl, FX1_oldestOf_j31, FX1_oldestOf_j32, if_pos rfl, pz_1]
          exact ih (k + 1) f v w (by omega) (by omega) hi
        · rw [if_neg a1, if_neg (show ¬ (1 : Int32) = 0 by decide), FX1_oldestOf_j32, if_neg (show ¬ (1 : Int32) = 0 by decide), pz_1]
          rcases hi with ⟨q1, q2⟩ | ⟨g, b1, b2, b3, b4, b5⟩
          · rw [if_neg (by rw [q2, a3]; exact pz_nlem1 (by omega)), if_pos q1]
            exact ih (k + 1) f (nI k) (ag sk k) (by omega) (by omega) (Or.inr ⟨k, hk12, rfl, h1, a1, rfl⟩)
          · rw [b2, if_neg (pz_m1 (by omega)), R.f1_ageOf hk12, pz_bnd, R.f1_ageOf b1, pz_bnd, b5]
            by_cases h2 : ag sk k ≤ ag sk g
            · rw [if_pos h2, if_pos h2]
              exact ih (k + 1) f (nI g) (ag sk g) (by omega) (by omega) (Or.inr ⟨g, b1, rfl, b3, b4, rfl⟩)
            · rw [if_neg h2, if_neg h2]
              exact ih (k + 1) f (nI k) (ag sk k) (by omega) (by omega) (Or.inr ⟨k, hk12, rfl, h1, a1, rfl⟩)
      · rw [if_neg h1, if_neg h1, FX1_oldestOf_j31, FX1_oldestOf_j32, if_pos rfl, pz_1]
        exact ih (k + 1) f v w (by omega) (by omega) hi
  exact loop 12 0 300 (-1) (-1) (by omega) (by omega) (Or.inl ⟨rfl, rfl⟩)
/-- a frame can be lent by x: 1 -/
def clv (sk : ST) (k : Nat) (x : Int32) : Int32 := if sk 5 k = x ∧ sk 6 k = x then (if sk 7 k = -1 then 1 else if ag sk k < 5 then 0 else 1) else 0
theorem Rel.f1_canLend (R : Rel n c nl r t h sk sm) {k : Nat} (hk : k < 12) (x : Int32) : FX1_canLend (nI k) x sm = some (0, clv sk k x, sm) := by
  have g12 : ∀ o, gd (oz_in (nI k) 12) o = o := fun o => pz_gd hk (by omega)
  have j0 : FX1_canLend_j24 (nI k) sm = some (0, 0, sm) := by rw [FX1_canLend_j24, FX1_canLend_j25, if_pos rfl]
  have j1 : FX1_canLend_j25 (nI k) 1 sm = some (0, if sk 7 k = -1 then 1 else if ag sk k < 5 then 0 else 1, sm) := by
    rw [FX1_canLend_j25, if_neg (show ¬ (1 : Int32) = 0 by decide), R.f1_isEmpty hk, pz_bnd]
    by_cases h1 : sk 7 k = -1
    · rw [if_pos h1, if_neg (show ¬ (1 : Int32) = 0 by decide), if_pos h1]
    · rw [if_neg h1, if_pos rfl, R.f1_ageOf hk, pz_bnd, if_neg h1]
      by_cases h2 : ag sk k < 5
      · rw [if_pos h2, if_pos h2]
      · rw [if_neg h2, if_neg h2]
  have e := (R.2.2.1 k hk).1.1
  have hnl := R.1.1.2.2
  unfold FX1_canLend clv
  rw [g12, pz_tn (by omega), g12, j0, j1, ← e]
  by_cases h1 : sk 5 k = x
  · rw [if_pos h1]
    rcases R.hol hk with ⟨a1, a2⟩ | ⟨i, p, q, a1, a2, a3, a4, a5, a6, a7, a8⟩
    · rw [if_pos a1, if_pos (⟨h1, by rw [a2, h1]⟩ : sk 5 k = x ∧ sk 6 k = x)]
    · have hne : ¬ (sk 5 k = x ∧ sk 6 k = x) := by
        rintro ⟨b1, b2⟩
        rw [a6] at b1
        rw [a7, ← b1, pz_eq (by omega) (by omega)] at b2
        exact a5 b2.symm
      rw [a2, if_neg (pz_m1 (by omega)), if_neg hne]
  · rw [if_neg h1, if_neg (fun q => h1 q.1)]
theorem Rel.f1_worth (R : Rel n c nl r t h sk sm) {k : Nat} (hk : k < 12) : FX1_worth (nI k) sm = some (0, if sk 7 k = -1 then 50001 else ag sk k, sm) := by
  unfold FX1_worth
  rw [R.f1_isEmpty hk, pz_bnd]
  by_cases h1 : sk 7 k = -1
  · rw [if_pos h1, if_neg (show ¬ (1 : Int32) = 0 by decide), if_pos h1]
  · rw [if_neg h1, if_pos rfl, R.f1_ageOf hk, pz_bnd, if_neg h1]
theorem pz_50001 : (50001 : Int32) = nI 50001 := rfl
theorem Rel.worth_le (R : Rel n c nl r t h sk sm) {k : Nat} (hk : k < 12) : (if sk 7 k = -1 then (50001 : Int32) else ag sk k) ≤ 50001 := by
  by_cases h1 : sk 7 k = -1
  · rw [if_pos h1]; exact Int32.le_refl _
  · rw [if_neg h1]
    rcases R.age hk with ⟨a1, a2⟩ | ⟨a1, a, a2, a3⟩
    · rw [a2]; decide
    · rw [a3, pz_50001, pz_le (by omega) (by omega)]; omega
theorem Rel.frameOf_stay (R : Rel n c nl r t h sk sm) (x : Int32) {g : Nat} (hg : g < 12) (h7 : sk 7 g = -1) : ∀ (j k fu : Nat), j + k = 12 → j < fu → FX1_frameOf_w4 fu x (nI g) (nI k) sm = some (0, nI g, sm) := by
  intro j
  induction j with
  | zero =>
    intro k fu hk hf
    obtain ⟨f, rfl⟩ : ∃ f, fu = f + 1 := ⟨fu - 1, by omega⟩
    obtain rfl : k = 12 := by omega
    rw [FX1_frameOf_w4, if_pos (by decide)]
  | succ j ih =>
    intro k fu hk hf
    obtain ⟨f, rfl⟩ : ∃ f, fu = f + 1 := ⟨fu - 1, by omega⟩
    have hk12 : k < 12 := by omega
    have n12 : ¬ (12 : Int32) ≤ nI k := by rw [pz_le12 (by omega)]; omega
    rw [FX1_frameOf_w4, if_neg n12, R.f1_canLend hk12, pz_bnd, if_neg (pz_m1 (by omega)), R.f1_worth hk12, pz_bnd, R.f1_worth hg, pz_bnd, if_pos h7, if_pos (R.worth_le hk12), pz_1, ite_self]
    exact ih (k + 1) f (by omega) (by omega)
theorem Rel.isLender_stay (x : Int32) : ∀ (j k fu : Nat), j + k = 12 → j < fu → FX1_isLender_w4 fu x 1 (nI k) sm = some (0, 1, sm) := by
  intro j
  induction j with
  | zero =>
    intro k fu hk hf
    obtain ⟨f, rfl⟩ : ∃ f, fu = f + 1 := ⟨fu - 1, by omega⟩
    obtain rfl : k = 12 := by omega
    rw [FX1_isLender_w4, if_pos (by decide)]
    rfl
  | succ j ih =>
    intro k fu hk hf
    obtain ⟨f, rfl⟩ : ∃ f, fu = f + 1 := ⟨fu - 1, by omega⟩
    have n12 : ¬ (12 : Int32) ≤ nI k := by rw [pz_le12 (by omega)]; omega
    rw [FX1_isLender_w4, if_neg n12, if_neg (show ¬ (1 : Int32) = 0 by decide), pz_1]
    exact ih (k + 1) f (by omega) (by omega)
theorem Rel.s_lend (R : Rel n c nl r t h sk sm) (x : Int32) : ∃ v, FX0_frameToLend x sk = some (0, v, sk) ∧ FX1_frameOf x sm = some (0, v, sm) ∧ FX1_isLender x sm = some (0, if v = -1 then 0 else 1, sm) ∧ (v = -1 ∨ ∃ g, g < 12 ∧ v = nI g ∧ sk 5 g = x ∧ sk 6 g = x ∧ (sk 7 g = -1 ∨ sk 8 g ≠ 0)) := by
  have loop : ∀ (j k fu : Nat) (v w : Int32), j + k = 12 → j < fu → ((v = -1 ∧ w = 4) ∨ ∃ g a, g < 12 ∧ v = nI g ∧ sk 5 g = x ∧ sk 6 g = x ∧ sk 7 g ≠ -1 ∧ sk 8 g ≠ 0 ∧ w = ag sk g ∧ ag sk g = nI a ∧ 5 ≤ a ∧ a ≤ 50000) → ∃ z, FX0_frameToLend_w7 fu x v w (nI k) sk = some (0, z, sk) ∧ FX1_frameOf_w4 fu x v (nI k) sm = some (0, z, sm) ∧ FX1_isLender_w4 fu x (if v = -1 then 0 else 1) (nI k) sm = some (0, if z = -1 then 0 else 1, sm) ∧ (z = -1 ∨ ∃ g, g < 12 ∧ z = nI g ∧ sk 5 g = x ∧ sk 6 g = x ∧ (sk 7 g = -1 ∨ sk 8 g ≠ 0)) := by
    intro j
    induction j with
    | zero =>
      intro k fu v w hk hf hi
      obtain ⟨f, rfl⟩ : ∃ f, fu = f + 1 := ⟨fu - 1, by omega⟩
      obtain rfl : k = 12 := by omega
      refine ⟨v, by rw [FX0_frameToLend_w7, if_pos (by decide)], by rw [FX1_frameOf_w4, if_pos (by decide)], ?_, hi.elim (fun q => Or.inl q.1) (fun ⟨g, a, a1, a2, a3, a4, a5, a6, _⟩ => Or.inr ⟨g, a1, a2, a3, a4, Or.inr a6⟩)⟩
      rw [FX1_isLender_w4, if_pos (by decide)]
      by_cases hv : v = -1
      · rw [if_pos hv]; rfl
      · rw [if_neg hv]; rfl
    | succ j ih =>
      intro k fu v w hk hf hi
      obtain ⟨f, rfl⟩ : ∃ f, fu = f + 1 := ⟨fu - 1, by omega⟩
      have hk12 : k < 12 := by omega
      have n12 : ¬ (12 : Int32) ≤ nI k := by rw [pz_le12 (by omega)]; omega
      have g12 : ∀ o, gd (oz_in (nI k) 12) o = o := fun o => pz_gd hk12 (by omega)
      have skip : clv sk k x = 0 → FX0_frameToLend_w7 (f + 1) x v w (nI k) sk = FX0_frameToLend_w7 f x v w (nI (k + 1)) sk → ∃ z, FX0_frameToLend_w7 (f + 1) x v w (nI k) sk = some (0, z, sk) ∧ FX1_frameOf_w4 (f + 1) x v (nI k) sm = some (0, z, sm) ∧ FX1_isLender_w4 (f + 1) x (if v = -1 then 0 else 1) (nI k) sm = some (0, if z = -1 then 0 else 1, sm) ∧ (z = -1 ∨ ∃ g, g < 12 ∧ z = nI g ∧ sk 5 g = x ∧ sk 6 g = x ∧ (sk 7 g = -1 ∨ sk 8 g ≠ 0)) := by
        intro h0 h1
        rw [h1, FX1_frameOf_w4, FX1_isLender_w4, if_neg n12, if_neg n12, R.f1_canLend hk12, pz_bnd, pz_bnd, h0, if_pos rfl, if_pos rfl, pz_1]
        have := ih (k + 1) f v w (by omega) (by omega) hi
        by_cases hv : v = -1
        · rw [if_pos hv] at this ⊢
          rw [if_pos rfl]
          exact this
        · rw [if_neg hv] at this ⊢
          rw [if_neg (show ¬ (1 : Int32) = 0 by decide)]
          exact this
      by_cases h1 : sk 5 k = x
      · by_cases h2 : sk 6 k = x
        · by_cases h3 : sk 7 k = -1
          · -- an empty frame: the class is done
            have hc : clv sk k x = 1 := by unfold clv; rw [if_pos ⟨h1, h2⟩, if_pos h3]
            have hL : FX1_isLender_w4 (f + 1) x (if v = -1 then 0 else 1) (nI k) sm = some (0, 1, sm) := by
              rw [FX1_isLender_w4, if_neg n12, R.f1_canLend hk12, pz_bnd, hc, if_neg (show ¬ (1 : Int32) = 0 by decide), pz_1]
              by_cases hv : v = -1
              · rw [if_pos hv, if_pos rfl]; exact Rel.isLender_stay x j (k + 1) f (by omega) (by omega)
              · rw [if_neg hv, if_neg (show ¬ (1 : Int32) = 0 by decide)]; exact Rel.isLender_stay x j (k + 1) f (by omega) (by omega)
            refine ⟨nI k, ?_, ?_, by rw [hL, if_neg (pz_m1 (by omega))], Or.inr ⟨k, hk12, rfl, h1, h2, Or.inl h3⟩⟩
            · rw [FX0_frameToLend_w7, if_neg n12]
              simp only [g12]
              rw [pz_tn (by omega), if_pos h1, if_pos h2, if_pos h3]
            · rw [FX1_frameOf_w4, if_neg n12, R.f1_canLend hk12, pz_bnd, hc, if_neg (show ¬ (1 : Int32) = 0 by decide), pz_1]
              rcases hi with ⟨q1, q2⟩ | ⟨g, a, a1, a2, a3, a4, a5, a6, a7, a8, a9, a10⟩
              · rw [if_pos q1]; exact R.frameOf_stay x hk12 h3 j (k + 1) f (by omega) (by omega)
              · rw [a2, if_neg (pz_m1 (by omega)), R.f1_worth hk12, pz_bnd, R.f1_worth a1, pz_bnd, if_pos h3, if_neg a5, if_neg (by rw [a8, pz_50001, pz_le (by omega) (by omega)]; omega)]
                exact R.frameOf_stay x hk12 h3 j (k + 1) f (by omega) (by omega)
          · have hK : FX0_frameToLend_w7 (f + 1) x v w (nI k) sk = if ag sk k ≤ w then FX0_frameToLend_w7 f x v w (nI (k + 1)) sk else FX0_frameToLend_w7 f x (nI k) (ag sk k) (nI (k + 1)) sk := by
              rw [FX0_frameToLend_w7, if_neg n12]
              simp only [g12]
              rw [pz_tn (by omega), if_pos h1, if_pos h2, if_neg h3, F0_ageOf_in hk12, pz_bnd, F0_ageOf_in hk12, pz_bnd, pz_1]
            have hcl : clv sk k x = if ag sk k < 5 then 0 else 1 := by unfold clv; rw [if_pos ⟨h1, h2⟩, if_neg h3]
            by_cases h5 : ag sk k < 5
            · have hle : ag sk k ≤ w := by
                have h6 : ag sk k ≤ 4 := by
                  rcases R.age hk12 with ⟨a1, a2⟩ | ⟨a1, a, a2, a3⟩
                  · rw [a2]; decide
                  · rw [a3] at h5 ⊢
                    have h7 := (pz_lt (a := a) (b := 5) (by omega) (by omega)).mp h5
                    exact (pz_le (a := a) (b := 4) (by omega) (by omega)).mpr (by omega)
                rcases hi with ⟨q1, q2⟩ | ⟨g, a, a1, a2, a3, a4, a5, a6, a7, a8, a9, a10⟩
                · rw [q2]; exact h6
                · rw [a7, a8]
                  exact Int32.le_trans h6 ((pz_le (a := 4) (b := a) (by omega) (by omega)).mpr (by omega))
              exact skip (by rw [hcl, if_pos h5]) (by rw [hK, if_pos hle])
            · have hth : sk 8 k ≠ 0 ∧ ∃ a, a ≤ 50000 ∧ ag sk k = nI a ∧ 5 ≤ a := by
                rcases R.age hk12 with ⟨a1, a2⟩ | ⟨a1, a, a2, a3⟩
                · rw [a2] at h5; exact absurd (by decide) h5
                · refine ⟨a1, a, a2, a3, ?_⟩
                  rw [a3] at h5
                  rcases Nat.lt_or_ge a 5 with q | q
                  · exact absurd ((pz_lt (a := a) (b := 5) (by omega) (by omega)).mpr q) h5
                  · exact q
              obtain ⟨t1, a0, t2, t3, t4⟩ := hth
              have take : ¬ ag sk k ≤ w → (v = -1 ∨ ∃ g, g < 12 ∧ v = nI g ∧ sk 7 g ≠ -1 ∧ w = ag sk g) → ∃ z, FX0_frameToLend_w7 (f + 1) x v w (nI k) sk = some (0, z, sk) ∧ FX1_frameOf_w4 (f + 1) x v (nI k) sm = some (0, z, sm) ∧ FX1_isLender_w4 (f + 1) x (if v = -1 then 0 else 1) (nI k) sm = some (0, if z = -1 then 0 else 1, sm) ∧ (z = -1 ∨ ∃ g, g < 12 ∧ z = nI g ∧ sk 5 g = x ∧ sk 6 g = x ∧ (sk 7 g = -1 ∨ sk 8 g ≠ 0)) := by
                intro hn hv
                have hI := ih (k + 1) f (nI k) (ag sk k) (by omega) (by omega) (Or.inr ⟨k, a0, hk12, rfl, h1, h2, h3, t1, rfl, t3, t4, t2⟩)
                rw [if_neg (pz_m1 (by omega))] at hI
                rw [hK, if_neg hn, FX1_frameOf_w4, FX1_isLender_w4, if_neg n12, if_neg n12, R.f1_canLend hk12, pz_bnd, pz_bnd, hcl, if_neg h5, if_neg (show ¬ (1 : Int32) = 0 by decide), if_neg (show ¬ (1 : Int32) = 0 by decide), pz_1, ite_self]
                rcases hv with q | ⟨g, b1, b2, b3, b4⟩
                · rw [if_pos q]; exact hI
                · rw [b2, if_neg (pz_m1 (by omega)), R.f1_worth hk12, pz_bnd, R.f1_worth b1, pz_bnd, if_neg h3, if_neg b3, ← b4, if_neg hn]
                  exact hI
              rcases hi with ⟨q1, q2⟩ | ⟨g, a, a1, a2, a3, a4, a5, a6, a7, a8, a9, a10⟩
              · refine take ?_ (Or.inl q1)
                rw [q2, t3]
                exact fun q => absurd ((pz_le (a := a0) (b := 4) (by omega) (by omega)).mp q) (by omega)
              · by_cases h6 : ag sk k ≤ w
                · have hI := ih (k + 1) f v w (by omega) (by omega) (Or.inr ⟨g, a, a1, a2, a3, a4, a5, a6, a7, a8, a9, a10⟩)
                  have hv : ¬ v = -1 := by rw [a2]; exact pz_m1 (by omega)
                  rw [if_neg hv] at hI
                  rw [hK, if_pos h6, FX1_frameOf_w4, FX1_isLender_w4, if_neg n12, if_neg n12, R.f1_canLend hk12, pz_bnd, hcl, if_neg h5, if_neg (show ¬ (1 : Int32) = 0 by decide), if_neg hv, if_neg hv, if_neg (show ¬ (1 : Int32) = 0 by decide), pz_1]
                  rw [a2] at hI ⊢
                  rw [R.f1_worth hk12, pz_bnd, R.f1_worth a1, pz_bnd, if_neg h3, if_neg a5, ← a7, if_pos h6]
                  exact hI
                · exact take h6 (Or.inr ⟨g, a1, a2, a5, a7⟩)
        · refine skip (by unfold clv; rw [if_neg (fun q => h2 q.2)]) ?_
          rw [FX0_frameToLend_w7, if_neg n12]
          simp only [g12]
          rw [pz_tn (by omega), if_pos h1, if_neg h2, pz_1]
      · refine skip (by unfold clv; rw [if_neg (fun q => h1 q.1)]) ?_
        rw [FX0_frameToLend_w7, if_neg n12]
        simp only [g12]
        rw [pz_tn (by omega), if_neg h1, pz_1]
  have := loop 12 0 300 (-1) 4 (by omega) (by omega) (Or.inl ⟨rfl, rfl⟩)
  rw [if_pos rfl] at this
  exact this
theorem Rel.purse (R : Rel n c nl r t h sk sm) {p : Nat} (hp : p < 5) : ∃ u, u ≤ n ∧ sk 2 p = nI u := (R.2.1 p hp).2.2
theorem Rel.s_rich (R : Rel n c nl r t h sk sm) (hn : n ≤ 1000000000) {b : Nat} (hb : b < 5) : ∃ v, FX0_richestLender (nI b) sk = some (0, v, sk) ∧ FX1_lenderFor (nI b) sm = some (0, v, sm) ∧ (v = -1 ∨ ∃ g z, g < 5 ∧ g ≠ b ∧ v = nI g ∧ z < 12 ∧ FX0_frameToLend (nI g) sk = some (0, nI z, sk) ∧ FX1_frameOf (nI g) sm = some (0, nI z, sm) ∧ sk 5 z = nI g ∧ sk 6 z = nI g ∧ (sk 7 z = -1 ∨ sk 8 z ≠ 0)) := by
  have ht := R.1.2.2.1.2.2
  have loop : ∀ (j k fu : Nat) (v w : Int32), j + k = 5 → j < fu → ((v = -1 ∧ w = -1) ∨ ∃ g, g < 5 ∧ g ≠ b ∧ v = nI g ∧ w = sk 2 g ∧ ∃ z, z < 12 ∧ FX0_frameToLend (nI g) sk = some (0, nI z, sk) ∧ FX1_frameOf (nI g) sm = some (0, nI z, sm) ∧ sk 5 z = nI g ∧ sk 6 z = nI g ∧ (sk 7 z = -1 ∨ sk 8 z ≠ 0)) → ∃ y, FX0_richestLender_w7 fu (nI b) v w (nI k) sk = some (0, y, sk) ∧ FX1_lenderFor_w4 fu (nI b) v (nI k) sm = some (0, y, sm) ∧ (y = -1 ∨ ∃ g z, g < 5 ∧ g ≠ b ∧ y = nI g ∧ z < 12 ∧ FX0_frameToLend (nI g) sk = some (0, nI z, sk) ∧ FX1_frameOf (nI g) sm = some (0, nI z, sm) ∧ sk 5 z = nI g ∧ sk 6 z = nI g ∧ (sk 7 z = -1 ∨ sk 8 z ≠ 0)) := by
    intro j
    induction j with
    | zero =>
      intro k fu v w hk hf hi
      obtain ⟨f, rfl⟩ : ∃ f, fu = f + 1 := ⟨fu - 1, by omega⟩
      obtain rfl : k = 5 := by omega
      exact ⟨v, by rw [FX0_richestLender_w7, if_pos (by decide)], by rw [FX1_lenderFor_w4, if_pos (by decide)], hi.elim (fun q => Or.inl q.1) (fun ⟨g, a1, a2, a3, _, z, a5, a6⟩ => Or.inr ⟨g, z, a1, a2, a3, a5, a6⟩)⟩
    | succ j ih =>
      intro k fu v w hk hf hi
      obtain ⟨f, rfl⟩ : ∃ f, fu = f + 1 := ⟨fu - 1, by omega⟩
      have hk5 : k < 5 := by omega
      have n5 : ¬ (5 : Int32) ≤ nI k := by rw [pz_le5 (by omega)]; omega
      have g5 : ∀ o, gd (oz_in (nI k) 5) o = o := fun o => pz_gd hk5 (by omega)
      rw [FX0_richestLender_w7, FX1_lenderFor_w4, if_neg n5, if_neg n5]
      by_cases h1 : nI k = nI b
      · rw [if_pos h1, if_pos h1, FX1_lenderFor_j26, FX1_lenderFor_j27, if_pos rfl, pz_1]
        exact ih (k + 1) f v w (by omega) (by omega) hi
      · have hkb : k ≠ b := fun q => h1 (by rw [q])
        obtain ⟨z, e1, e2, e3, e4⟩ := R.s_lend (nI k)
        have e5 := (R.2.1 k hk5).1.2.1
        obtain ⟨u, hu, eu⟩ := R.purse hk5
        rw [if_neg h1, if_neg h1, g5, e1, pz_bnd, g5, pz_tn (by omega), e3, pz_bnd, pz_1]
        by_cases hz : z = -1
        · rw [if_pos hz, if_pos hz, if_pos rfl, FX1_lenderFor_j26, FX1_lenderFor_j27, if_pos rfl, pz_1, ite_self]
          exact ih (k + 1) f v w (by omega) (by omega) hi
        · have hz4 : ∃ g, g < 12 ∧ z = nI g ∧ sk 5 g = nI k ∧ sk 6 g = nI k ∧ (sk 7 g = -1 ∨ sk 8 g ≠ 0) := e4.elim (fun q => absurd q hz) id
          obtain ⟨g0, d1, d2, d3, d4, d5⟩ := hz4
          have d6 : ∃ z, z < 12 ∧ FX0_frameToLend (nI k) sk = some (0, nI z, sk) ∧ FX1_frameOf (nI k) sm = some (0, nI z, sm) ∧ sk 5 z = nI k ∧ sk 6 z = nI k ∧ (sk 7 z = -1 ∨ sk 8 z ≠ 0) := ⟨g0, d1, by rw [← d2]; exact e1, by rw [← d2]; exact e2, d3, d4, d5⟩
          rw [if_neg hz, if_neg hz, if_neg (show ¬ (1 : Int32) = 0 by decide), FX1_lenderFor_j27, if_neg (show ¬ (1 : Int32) = 0 by decide), pz_1]
          rcases hi with ⟨q1, q2⟩ | ⟨g, a1, a2, a3, a4, a5⟩
          · rw [if_pos q1, if_neg (by rw [q2, eu]; exact pz_nlem1 (by omega))]
            exact ih (k + 1) f (nI k) (sk 2 k) (by omega) (by omega) (Or.inr ⟨k, hk5, hkb, rfl, rfl, d6⟩)
          · rw [a3, if_neg (pz_m1 (by omega)), g5, pz_gd a1 (by omega), pz_tn (by omega), pz_tn (by omega), ← e5, ← (R.2.1 g a1).1.2.1, a4]
            by_cases h2 : sk 2 k ≤ sk 2 g
            · rw [if_pos h2, if_pos h2]
              exact ih (k + 1) f (nI g) (sk 2 g) (by omega) (by omega) (Or.inr ⟨g, a1, a2, rfl, rfl, a5⟩)
            · rw [if_neg h2, if_neg h2]
              exact ih (k + 1) f (nI k) (sk 2 k) (by omega) (by omega) (Or.inr ⟨k, hk5, hkb, rfl, rfl, d6⟩)
  exact loop 5 0 300 (-1) (-1) (by omega) (by omega) (Or.inl ⟨rfl, rfl⟩)
theorem Rel.s_giver (R : Rel n c nl r t h sk sm) (hn : n ≤ 1000000000) : ∃ v, FX0_richestGiver sk = some (0, v, sk) ∧ FX1_richest sm = some (0, v, sm) ∧ (v = -1 ∨ ∃ g, g < 5 ∧ v = nI g ∧ sk 3 g ≠ 2 ∧ ∃ u, 20 ≤ u ∧ u < 2000000000 ∧ sk 2 g = nI u) := by
  have ht := R.1.2.2.1.2.2
  have loop : ∀ (j k fu : Nat) (v w : Int32), j + k = 5 → j < fu → ((v = -1 ∧ w = 19) ∨ ∃ g u, g < 5 ∧ v = nI g ∧ sk 3 g ≠ 2 ∧ w = sk 2 g ∧ sk 2 g = nI u ∧ 20 ≤ u ∧ u < 2000000000) → ∃ y, FX0_richestGiver_w7 fu v w (nI k) sk = some (0, y, sk) ∧ FX1_richest_w4 fu v (nI k) sm = some (0, y, sm) ∧ (y = -1 ∨ ∃ g, g < 5 ∧ y = nI g ∧ sk 3 g ≠ 2 ∧ ∃ u, 20 ≤ u ∧ u < 2000000000 ∧ sk 2 g = nI u) := by
    intro j
    induction j with
    | zero =>
      intro k fu v w hk hf hi
      obtain ⟨f, rfl⟩ : ∃ f, fu = f + 1 := ⟨fu - 1, by omega⟩
      obtain rfl : k = 5 := by omega
      exact ⟨v, by rw [FX0_richestGiver_w7, if_pos (by decide)], by rw [FX1_richest_w4, if_pos (by decide)], hi.elim (fun q => Or.inl q.1) (fun ⟨g, u, a1, a2, a3, _, a5, a6, a7⟩ => Or.inr ⟨g, a1, a2, a3, u, a6, a7, a5⟩)⟩
    | succ j ih =>
      intro k fu v w hk hf hi
      obtain ⟨f, rfl⟩ : ∃ f, fu = f + 1 := ⟨fu - 1, by omega⟩
      have hk5 : k < 5 := by omega
      have n5 : ¬ (5 : Int32) ≤ nI k := by rw [pz_le5 (by omega)]; omega
      have g5 : ∀ o, gd (oz_in (nI k) 5) o = o := fun o => pz_gd hk5 (by omega)
      obtain ⟨⟨-, e2, e3, -⟩, -, u, hu, eu⟩ := R.2.1 k hk5
      rw [FX0_richestGiver_w7, FX1_richest_w4, if_neg n5, if_neg n5]
      simp only [g5]
      rw [pz_tn (by omega), ← e2, ← e3, pz_1, FX1_richest_j34, FX1_richest_j35, if_pos rfl, pz_1, FX1_richest_j35, if_neg (show ¬ (1 : Int32) = 0 by decide), pz_1]
      by_cases h1 : sk 3 k = 2
      · rw [if_pos h1, if_pos h1]
        exact ih (k + 1) f v w (by omega) (by omega) hi
      · rw [if_neg h1, if_neg h1]
        by_cases h20 : u < 20
        · have hlt : sk 2 k < 20 := by rw [eu]; exact (pz_lt (a := u) (b := 20) (by omega) (by omega)).mpr h20
          have hle : sk 2 k ≤ w := by
            rw [eu]
            rcases hi with ⟨q1, q2⟩ | ⟨g, u2, a1, a2, a3, a4, a5, a6, a7⟩
            · rw [q2]; exact (pz_le (a := u) (b := 19) (by omega) (by omega)).mpr (by omega)
            · rw [a4, a5]; exact (pz_le (by omega) (by omega)).mpr (by omega)
          rw [if_pos hle, if_pos hlt]
          exact ih (k + 1) f v w (by omega) (by omega) hi
        · have hlt : ¬ sk 2 k < 20 := by
            rw [eu]
            exact fun q => h20 ((pz_lt (a := u) (b := 20) (by omega) (by omega)).mp q)
          rw [if_neg hlt]
          rcases hi with ⟨q1, q2⟩ | ⟨g, u2, a1, a2, a3, a4, a5, a6, a7⟩
          · rw [if_pos q1, if_neg (by rw [q2, eu]; exact fun q => absurd ((pz_le (a := u) (b := 19) (by omega) (by omega)).mp q) (by omega))]
            exact ih (k + 1) f (nI k) (sk 2 k) (by omega) (by omega) (Or.inr ⟨k, u, hk5, rfl, h1, rfl, eu, by omega, by omega⟩)
          · rw [a2, if_neg (pz_m1 (by omega)), g5, pz_gd a1 (by omega), pz_tn (by omega), pz_tn (by omega), ← e2, ← (R.2.1 g a1).1.2.1, a4]
            by_cases h2 : sk 2 k ≤ sk 2 g
            · rw [if_pos h2, if_pos h2]
              exact ih (k + 1) f (nI g) (sk 2 g) (by omega) (by omega) (Or.inr ⟨g, u2, a1, rfl, a3, rfl, a5, a6, a7⟩)
            · rw [if_neg h2, if_neg h2]
              exact ih (k + 1) f (nI k) (sk 2 k) (by omega) (by omega) (Or.inr ⟨k, u, hk5, rfl, h1, rfl, eu, by omega, by omega⟩)
  exact loop 5 0 300 (-1) 19 (by omega) (by omega) (Or.inl ⟨rfl, rfl⟩)
end PX
