/-! LOOPS THAT ONLY READ, in lockstep -/
/-- the first of n places that is P, or -1 -/
def Fst (P : Nat → Prop) (n : Nat) (r : Int32) : Prop := (∃ k, k < n ∧ P k ∧ (∀ j, j < k → ¬ P j) ∧ r = nI k) ∨ ((∀ j, j < n → ¬ P j) ∧ r = -1)
theorem Fst.uniq {P : Nat → Prop} {n : Nat} {r r2 : Int32} (h1 : Fst P n r) (h2 : Fst P n r2) : r = r2 := by
  rcases h1 with ⟨k, a1, a2, a3, a4⟩ | ⟨a1, a2⟩
  · rcases h2 with ⟨k2, b1, b2, b3, b4⟩ | ⟨b1, b2⟩
    · rcases Nat.lt_trichotomy k k2 with q | q | q
      · exact absurd a2 (b3 k q)
      · rw [a4, b4, q]
      · exact absurd b2 (a3 k2 q)
    · exact absurd a2 (b1 k a1)
  · rcases h2 with ⟨k2, b1, b2, b3, b4⟩ | ⟨b1, b2⟩
    · exact absurd b2 (a1 k2 b1)
    · rw [a2, b2]
theorem Fst.congr {P Q : Nat → Prop} {n : Nat} {r : Int32} (h : Fst P n r) (e : ∀ i, i < n → (P i ↔ Q i)) : Fst Q n r := by
  rcases h with ⟨k, a1, a2, a3, a4⟩ | ⟨a1, a2⟩
  · exact Or.inl ⟨k, a1, (e k a1).mp a2, fun j hj hq => a3 j hj ((e j (by omega)).mpr hq), a4⟩
  · exact Or.inr ⟨fun j hj hq => a1 j hj ((e j hj).mpr hq), a2⟩
/-- the place below -/
def dn : Nat → Int32
  | 0 => -1
  | m + 1 => nI m
theorem dn_pr (m : Nat) : nI m + (-1) = dn m := by
  cases m with
  | zero => rfl
  | succ m => exact pz_pr m
/-- found so far, from above: the first in [m, n) -/
def Up (P : Nat → Prop) (m n : Nat) (r : Int32) : Prop := (∃ k, m ≤ k ∧ k < n ∧ P k ∧ (∀ j, m ≤ j → j < k → ¬ P j) ∧ r = nI k) ∨ ((∀ j, m ≤ j → j < n → ¬ P j) ∧ r = -1)
theorem Up.yes {P : Nat → Prop} {m n : Nat} (hm : m < n) (h : P m) : Up P m n (nI m) := Or.inl ⟨m, Nat.le_refl m, hm, h, fun j h1 h2 => by omega, rfl⟩
theorem Up.no {P : Nat → Prop} {m n : Nat} {r : Int32} (h : Up P (m + 1) n r) (hm : ¬ P m) : Up P m n r := by
  rcases h with ⟨k, a0, a1, a2, a3, a4⟩ | ⟨a1, a2⟩
  · refine Or.inl ⟨k, by omega, a1, a2, fun j h1 h2 => ?_, a4⟩
    rcases Nat.lt_or_ge m j with q | q
    · exact a3 j q h2
    · rw [show j = m by omega]; exact hm
  · refine Or.inr ⟨fun j h1 h2 => ?_, a2⟩
    rcases Nat.lt_or_ge m j with q | q
    · exact a1 j q h2
    · rw [show j = m by omega]; exact hm
theorem Up.top {P : Nat → Prop} (n : Nat) : Up P n n (-1) := Or.inr ⟨fun j h1 h2 => by omega, rfl⟩
theorem Up.fst {P : Nat → Prop} {n : Nat} {r : Int32} (h : Up P 0 n r) : Fst P n r := by
  rcases h with ⟨k, a0, a1, a2, a3, a4⟩ | ⟨a1, a2⟩
  · exact Or.inl ⟨k, a1, a2, fun j hj => a3 j (Nat.zero_le j) hj, a4⟩
  · exact Or.inr ⟨fun j hj => a1 j (Nat.zero_le j) hj, a2⟩
section PY
variable {n nl r t h : Nat} {c : Int32} {sk sm : ST}
theorem low_w2 (s : ST) (x : Int32) : ∀ (j k fu : Nat), j + k = 12 → j < fu → (∀ i, i < k → ¬ (s 6 i = x ∧ s 7 i = -1)) → ∃ v, FX0_lowestEmptyFrame_w2 fu x (nI k) s = some (0, v, s) ∧ Fst (fun i => s 6 i = x ∧ s 7 i = -1) 12 v := by
  intro j
  induction j with
  | zero =>
    intro k fu hk hf hn
    obtain ⟨f, rfl⟩ : ∃ f, fu = f + 1 := ⟨fu - 1, by omega⟩
    obtain rfl : k = 12 := by omega
    exact ⟨-1, by rw [FX0_lowestEmptyFrame_w2, if_pos (by decide)], Or.inr ⟨hn, rfl⟩⟩
  | succ j ih =>
    intro k fu hk hf hn
    obtain ⟨f, rfl⟩ : ∃ f, fu = f + 1 := ⟨fu - 1, by omega⟩
    have n12 : ¬ (12 : Int32) ≤ nI k := by rw [pz_le12 (by omega)]; omega
    have next : ¬ (s 6 k = x ∧ s 7 k = -1) → ∃ v, FX0_lowestEmptyFrame_w2 f x (nI (k + 1)) s = some (0, v, s) ∧ Fst (fun i => s 6 i = x ∧ s 7 i = -1) 12 v := fun h0 => ih (k + 1) f (by omega) (by omega) (fun i hi => by
      rcases Nat.lt_or_ge i k with q | q
      · exact hn i q
      · rw [show i = k by omega]; exact h0)
    rw [FX0_lowestEmptyFrame_w2, if_neg n12, pz_gd (by omega) (by omega), pz_tn (by omega), pz_gd (by omega) (by omega), pz_1]
    by_cases h1 : s 6 k = x
    · rw [if_pos h1]
      by_cases h2 : s 7 k = -1
      · rw [if_pos h2]
        exact ⟨nI k, rfl, Or.inl ⟨k, by omega, ⟨h1, h2⟩, hn, rfl⟩⟩
      · rw [if_neg h2]
        exact next (fun q => h2 q.2)
    · rw [if_neg h1]
      exact next (fun q => h1 q.1)
theorem low_val (s : ST) (x : Int32) : ∃ v, FX0_lowestEmptyFrame x s = some (0, v, s) ∧ Fst (fun i => s 6 i = x ∧ s 7 i = -1) 12 v := low_w2 s x 12 0 300 (by omega) (by omega) (fun i hi => by omega)
theorem Rel.emptyOf_w (R : Rel n c nl r t h sk sm) (x : Int32) : ∀ (m fu : Nat) (v : Int32), m ≤ 12 → m < fu → Up (fun i => sk 6 i = x ∧ sk 7 i = -1) m 12 v → ∃ w, FX1_emptyOf_w5 fu x v (dn m) sm = some (0, w, sm) ∧ Fst (fun i => sk 6 i = x ∧ sk 7 i = -1) 12 w := by
  intro m
  induction m with
  | zero =>
    intro fu v hm hf hu
    obtain ⟨f, rfl⟩ : ∃ f, fu = f + 1 := ⟨fu - 1, by omega⟩
    exact ⟨v, by rw [FX1_emptyOf_w5, if_pos (by decide)], hu.fst⟩
  | succ m ih =>
    intro fu v hm hf hu
    obtain ⟨f, rfl⟩ : ∃ f, fu = f + 1 := ⟨fu - 1, by omega⟩
    rw [FX1_emptyOf_w5, show dn (m + 1) = nI m from rfl, if_neg (pz_neg (by omega)), R.f1_holderOf (by omega), pz_bnd, dn_pr]
    by_cases h1 : sk 6 m = x
    · rw [if_pos h1, R.f1_isEmpty (by omega), pz_bnd]
      by_cases h2 : sk 7 m = -1
      · rw [if_pos h2, if_neg (by decide)]
        exact ih f (nI m) (by omega) (by omega) (Up.yes (by omega) ⟨h1, h2⟩)
      · rw [if_neg h2, if_pos rfl]
        exact ih f v (by omega) (by omega) (hu.no (fun q => h2 q.2))
    · rw [if_neg h1]
      exact ih f v (by omega) (by omega) (hu.no (fun q => h1 q.1))
theorem Rel.s_empty (R : Rel n c nl r t h sk sm) (x : Int32) : ∃ v, FX0_lowestEmptyFrame x sk = some (0, v, sk) ∧ FX1_emptyOf x sm = some (0, v, sm) ∧ Fst (fun i => sk 6 i = x ∧ sk 7 i = -1) 12 v := by
  obtain ⟨v, h1, h2⟩ := low_val sk x
  obtain ⟨w, h3, h4⟩ := R.emptyOf_w x 12 300 (-1) (by omega) (by omega) (Up.top 12)
  have e := h2.uniq h4
  subst e
  exact ⟨v, h1, h3, h2⟩
theorem lowestFree_w (s : ST) : ∀ (m fu : Nat) (v : Int32), m ≤ 12 → m < fu → Up (fun i => s 3 i = -1) m 12 v → ∃ w, FX1_lowestFree_w5 fu v (dn m) s = some (0, w, s) ∧ Fst (fun i => s 3 i = -1) 12 w := by
  intro m
  induction m with
  | zero =>
    intro fu v hm hf hu
    obtain ⟨f, rfl⟩ : ∃ f, fu = f + 1 := ⟨fu - 1, by omega⟩
    exact ⟨v, by rw [FX1_lowestFree_w5, if_pos (by decide)], hu.fst⟩
  | succ m ih =>
    intro fu v hm hf hu
    obtain ⟨f, rfl⟩ : ∃ f, fu = f + 1 := ⟨fu - 1, by omega⟩
    rw [FX1_lowestFree_w5, show dn (m + 1) = nI m from rfl, if_neg (pz_neg (by omega)), pz_gd (by omega) (by omega), pz_tn (by omega), dn_pr]
    by_cases h1 : s 3 m = -1
    · rw [if_pos h1]
      exact ih f (nI m) (by omega) (by omega) (Up.yes (by omega) h1)
    · rw [if_neg h1]
      exact ih f v (by omega) (by omega) (hu.no h1)
/-- a frame without an owner: its holder is none, and it has no page -/
theorem Rel.own_none (R : Rel n c nl r t h sk sm) {f : Nat} (hf : f < 12) : (sk 6 f = -1 ∧ sk 7 f = -1) ↔ sm 3 f = -1 := by
  obtain ⟨⟨⟨-, -, hnl⟩, -⟩, -, h3, h4, -⟩ := R
  obtain ⟨⟨e1, -, -⟩, -, -, -, -, hl, h9⟩ := h3 f hf
  constructor
  · rintro ⟨a1, a2⟩
    rcases hl with ⟨b1, b2⟩ | ⟨j, b1, b2, b3, b4, b5⟩
    · rw [← e1, ← b2, a1]
    · obtain ⟨g, p, q, c1, c2, c3, c4, c5, c6, c7, c8⟩ := h4 j b1
      rw [b4, c7] at a1
      exact absurd a1 (pz_m1 (by omega))
  · intro a1
    rw [← e1] at a1
    refine ⟨?_, h9 a1⟩
    rcases hl with ⟨b1, b2⟩ | ⟨j, b1, b2, b3, b4, b5⟩
    · rw [b2, a1]
    · obtain ⟨g, p, q, c1, c2, c3, c4, c5, c6, c7, c8⟩ := h4 j b1
      rw [b5, c6] at a1
      exact absurd a1 (pz_m1 (by omega))
theorem Rel.s_free (R : Rel n c nl r t h sk sm) : ∃ v, FX0_lowestEmptyFrame (-1) sk = some (0, v, sk) ∧ FX1_lowestFree sm = some (0, v, sm) ∧ Fst (fun i => sm 3 i = -1) 12 v := by
  obtain ⟨v, h1, h2⟩ := low_val sk (-1)
  obtain ⟨w, h3, h4⟩ := lowestFree_w sm 12 300 (-1) (by omega) (by omega) (Up.top 12)
  have e := (h2.congr (fun i hi => R.own_none hi)).uniq h4
  subst e
  exact ⟨v, h1, h3, h4⟩
/-- who holds, and who owns -/
theorem Rel.hol (R : Rel n c nl r t h sk sm) {f : Nat} (hf : f < 12) : (sm 7 f = -1 ∧ sk 6 f = sk 5 f) ∨ ∃ j p q, j < nl ∧ sm 7 f = nI j ∧ p < 5 ∧ q < 5 ∧ p ≠ q ∧ sk 5 f = nI p ∧ sk 6 f = nI q ∧ sm 15 j = nI q := by
  obtain ⟨⟨⟨-, -, hnl⟩, -⟩, -, h3, h4, h5, -⟩ := R
  obtain ⟨-, -, -, -, -, hl, -⟩ := h3 f hf
  rcases hl with b | ⟨j, b1, b2, b3, b4, b5⟩
  · exact Or.inl b
  · obtain ⟨g, p, q, c1, c2, c3, c4, c5, c6, c7, c8⟩ := h4 j b1
    exact Or.inr ⟨j, p, q, b1, b2, c2, c3, c4, by rw [b5, c6], by rw [b4, c7], by rw [← (h5 j (by omega)).1.2.2.1, c7]⟩
theorem Rel.s_count (R : Rel n c nl r t h sk sm) (x : Int32) : ∃ v, FX0_countBorrowed x sk = some (0, v, sk) ∧ FX1_borrowedBy x sm = some (0, v, sm) := by
  have hnl := R.1.1.2.2
  have loop : ∀ (j k fu : Nat) (v : Int32), j + k = 12 → j < fu → ∃ w, FX0_countBorrowed_w4 fu x v (nI k) sk = some (0, w, sk) ∧ FX1_borrowedBy_w4 fu x v (nI k) sm = some (0, w, sm) := by
    intro j
    induction j with
    | zero =>
      intro k fu v hk hf
      obtain ⟨f, rfl⟩ : ∃ f, fu = f + 1 := ⟨fu - 1, by omega⟩
      obtain rfl : k = 12 := by omega
      exact ⟨v, by rw [FX0_countBorrowed_w4, if_pos (by decide)], by rw [FX1_borrowedBy_w4, if_pos (by decide)]⟩
    | succ j ih =>
      intro k fu v hk hf
      obtain ⟨f, rfl⟩ : ∃ f, fu = f + 1 := ⟨fu - 1, by omega⟩
      have n12 : ¬ (12 : Int32) ≤ nI k := by rw [pz_le12 (by omega)]; omega
      rw [FX0_countBorrowed_w4, FX1_borrowedBy_w4, if_neg n12, if_neg n12, pz_gd (by omega) (by omega), pz_tn (by omega), pz_gd (by omega) (by omega), pz_gd (by omega) (by omega), pz_gd (by omega) (by omega), pz_1]
      rcases R.hol (f := k) (by omega) with ⟨a1, a2⟩ | ⟨i, p, q, a1, a2, a3, a4, a5, a6, a7, a8⟩
      · rw [if_pos a1, a2, pz_0]
        by_cases h1 : sk 5 k = x
        · rw [if_pos h1, if_pos h1]; exact ih (k + 1) f v (by omega) (by omega)
        · rw [if_neg h1]; exact ih (k + 1) f v (by omega) (by omega)
      · rw [a2, if_neg (pz_m1 (by omega)), pz_gd (by omega) (by omega), pz_tn (by omega), a8, a7, a6, pz_0]
        by_cases h1 : nI q = x
        · rw [if_pos h1, if_pos h1, if_neg (by rw [← h1, pz_eq (by omega) (by omega)]; exact a5)]
          exact ih (k + 1) f (v + 1) (by omega) (by omega)
        · rw [if_neg h1, if_neg h1]; exact ih (k + 1) f v (by omega) (by omega)
  exact loop 12 0 300 0 (by omega) (by omega)
theorem Rel.s_nfree (R : Rel n c nl r t h sk sm) : ∃ v, FX0_free_w4 300 0 0 sk = some (0, v, sk) ∧ FX1_free_w9 300 0 0 sm = some (0, v, sm) := by
  have loop : ∀ (j k fu : Nat) (v : Int32), j + k = 12 → j < fu → ∃ w, FX0_free_w4 fu v (nI k) sk = some (0, w, sk) ∧ FX1_free_w9 fu v (nI k) sm = some (0, w, sm) := by
    intro j
    induction j with
    | zero =>
      intro k fu v hk hf
      obtain ⟨f, rfl⟩ : ∃ f, fu = f + 1 := ⟨fu - 1, by omega⟩
      obtain rfl : k = 12 := by omega
      exact ⟨v, by rw [FX0_free_w4, if_pos (by decide)], by rw [FX1_free_w9, if_pos (by decide)]⟩
    | succ j ih =>
      intro k fu v hk hf
      obtain ⟨f, rfl⟩ : ∃ f, fu = f + 1 := ⟨fu - 1, by omega⟩
      have n12 : ¬ (12 : Int32) ≤ nI k := by rw [pz_le12 (by omega)]; omega
      have e := (R.2.2.1 k (by omega)).1.1
      rw [FX0_free_w4, FX1_free_w9, if_neg n12, if_neg n12, pz_gd (by omega) (by omega), pz_tn (by omega), pz_gd (by omega) (by omega), pz_1, pz_0, e]
      by_cases h1 : sm 3 k = -1
      · rw [if_pos h1, if_pos h1]; exact ih (k + 1) f (v + 1) (by omega) (by omega)
      · rw [if_neg h1, if_neg h1]; exact ih (k + 1) f v (by omega) (by omega)
  exact loop 12 0 300 0 (by omega) (by omega)
theorem Rel.s_owns (R : Rel n c nl r t h sk sm) (x : Int32) : ∃ v, FX0_owns_w21 300 x 0 0 sk = some (0, v, sk) ∧ FX1_owns_w22 300 x 0 1 0 sm = some (0, v, sm) := by
  have loop : ∀ (j k fu : Nat) (v : Int32), j + k = 12 → j < fu → ∃ w, FX0_owns_w21 fu x v (nI k) sk = some (0, w, sk) ∧ FX1_owns_w22 fu x v 1 (nI k) sm = some (0, w, sm) := by
    intro j
    induction j with
    | zero =>
      intro k fu v hk hf
      obtain ⟨f, rfl⟩ : ∃ f, fu = f + 1 := ⟨fu - 1, by omega⟩
      obtain rfl : k = 12 := by omega
      exact ⟨v, by rw [FX0_owns_w21, if_pos (by decide)], by rw [FX1_owns_w22, if_pos (by decide)]⟩
    | succ j ih =>
      intro k fu v hk hf
      obtain ⟨f, rfl⟩ : ∃ f, fu = f + 1 := ⟨fu - 1, by omega⟩
      have n12 : ¬ (12 : Int32) ≤ nI k := by rw [pz_le12 (by omega)]; omega
      have e := (R.2.2.1 k (by omega)).1.1
      have g12 : ∀ o, gd (oz_in (nI k) 12) o = o := fun o => pz_gd (by omega) (by omega)
      rw [FX0_owns_w21, FX1_owns_w22, if_neg n12, if_neg n12, if_neg (show ¬ (1 : Int32) = 0 by decide), g12, g12, pz_tn (by omega), pz_1, pz_0, e]
      by_cases h1 : sm 3 k = x
      · rw [if_pos h1, if_pos h1]; exact ih (k + 1) f (v + 1) (by omega) (by omega)
      · rw [if_neg h1, if_neg h1]; exact ih (k + 1) f v (by omega) (by omega)
  exact loop 12 0 300 0 (by omega) (by omega)
theorem Rel.s_lent (R : Rel n c nl r t h sk sm) (x : Int32) : ∃ v, FX0_lent_w21 300 x 0 0 sk = some (0, v, sk) ∧ FX1_lent_w22 300 x 0 1 0 sm = some (0, v, sm) := by
  have hnl := R.1.1.2.2
  have loop : ∀ (j k fu : Nat) (v : Int32), j + k = 12 → j < fu → ∃ w, FX0_lent_w21 fu x v (nI k) sk = some (0, w, sk) ∧ FX1_lent_w22 fu x v 1 (nI k) sm = some (0, w, sm) := by
    intro j
    induction j with
    | zero =>
      intro k fu v hk hf
      obtain ⟨f, rfl⟩ : ∃ f, fu = f + 1 := ⟨fu - 1, by omega⟩
      obtain rfl : k = 12 := by omega
      exact ⟨v, by rw [FX0_lent_w21, if_pos (by decide)], by rw [FX1_lent_w22, if_pos (by decide)]⟩
    | succ j ih =>
      intro k fu v hk hf
      obtain ⟨f, rfl⟩ : ∃ f, fu = f + 1 := ⟨fu - 1, by omega⟩
      have n12 : ¬ (12 : Int32) ≤ nI k := by rw [pz_le12 (by omega)]; omega
      have e := (R.2.2.1 k (by omega)).1.1
      have g12 : ∀ o, gd (oz_in (nI k) 12) o = o := fun o => pz_gd (by omega) (by omega)
      rw [FX0_lent_w21, FX1_lent_w22, if_neg n12, if_neg n12, if_neg (show ¬ (1 : Int32) = 0 by decide)]
      simp only [g12]
      rw [pz_tn (by omega), pz_1, pz_0, ← e]
      by_cases h1 : sk 5 k = x
      · rw [if_pos h1, if_pos h1]
        rcases R.hol (f := k) (by omega) with ⟨a1, a2⟩ | ⟨i, p, q, a1, a2, a3, a4, a5, a6, a7, a8⟩
        · rw [if_pos a1, a2, if_pos h1]; exact ih (k + 1) f v (by omega) (by omega)
        · rw [a2, if_neg (pz_m1 (by omega)), a7, if_neg (by rw [← h1, a6, pz_eq (by omega) (by omega)]; omega)]
          exact ih (k + 1) f (v + 1) (by omega) (by omega)
      · rw [if_neg h1, if_neg h1]; exact ih (k + 1) f v (by omega) (by omega)
  exact loop 12 0 300 0 (by omega) (by omega)
theorem Rel.s_requests (R : Rel n c nl r t h sk sm) : ∃ v, FX0_requests_w4 300 0 0 sk = some (0, v, sk) ∧ FX1_requests_w9 300 0 0 sm = some (0, v, sm) := by
  have loop : ∀ (j k fu : Nat) (v : Int32), j + k = 12 → j < fu → ∃ w, FX0_requests_w4 fu v (nI k) sk = some (0, w, sk) ∧ FX1_requests_w9 fu v (nI k) sm = some (0, w, sm) := by
    intro j
    induction j with
    | zero =>
      intro k fu v hk hf
      obtain ⟨f, rfl⟩ : ∃ f, fu = f + 1 := ⟨fu - 1, by omega⟩
      obtain rfl : k = 12 := by omega
      exact ⟨v, by rw [FX0_requests_w4, if_pos (by decide)], by rw [FX1_requests_w9, if_pos (by decide)]⟩
    | succ j ih =>
      intro k fu v hk hf
      obtain ⟨f, rfl⟩ : ∃ f, fu = f + 1 := ⟨fu - 1, by omega⟩
      have n12 : ¬ (12 : Int32) ≤ nI k := by rw [pz_le12 (by omega)]; omega
      rw [FX0_requests_w4, FX1_requests_w9, if_neg n12, if_neg n12, F0_isComing_in (by omega), R.f1_isComing (by omega), pz_bnd, pz_bnd, pz_1, pz_0]
      by_cases h1 : cm sk k = 0
      · rw [if_pos h1, if_pos h1]; exact ih (k + 1) f v (by omega) (by omega)
      · rw [if_neg h1, if_neg h1]; exact ih (k + 1) f (v + 1) (by omega) (by omega)
  exact loop 12 0 300 0 (by omega) (by omega)
end PY
