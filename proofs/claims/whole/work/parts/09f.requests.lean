/-! requestAt: by tracks, and by how many are lower -/
def ctp (P : Nat → Bool) : Nat → Nat
  | 0 => 0
  | m + 1 => ctp P m + (if P m = true then 1 else 0)
theorem ctp_cong {P Q : Nat → Bool} : ∀ m, (∀ k, k < m → P k = Q k) → ctp P m = ctp Q m
  | 0, _ => rfl
  | m + 1, h => by rw [ctp, ctp, ctp_cong m (fun k hk => h k (by omega)), h m (by omega)]
theorem ctp_one {P Q : Nat → Bool} {k0 : Nat} (h0 : P k0 = false) : ∀ m, (∀ k, k < m → Q k = (P k || decide (k = k0))) → ctp Q m = ctp P m + (if k0 < m then 1 else 0)
  | 0, _ => rfl
  | m + 1, h => by
    rw [ctp, ctp, ctp_one h0 m (fun k hk => h k (by omega)), h m (by omega)]
    by_cases e : m = k0
    · subst e
      simp [h0]
    · have e2 : decide (m = k0) = false := decide_eq_false e
      rw [e2, Bool.or_false]
      by_cases q : k0 < m
      · rw [if_pos q, if_pos (show k0 < m + 1 by omega)]; omega
      · rw [if_neg q, if_neg (show ¬ k0 < m + 1 by omega)]; simp
theorem ctp_le {P Q : Nat → Bool} : ∀ m, (∀ k, k < m → P k = true → Q k = true) → ctp P m ≤ ctp Q m
  | 0, _ => Nat.le_refl _
  | m + 1, h => by
    have h1 := ctp_le m (fun k hk => h k (by omega))
    have h2 := h m (by omega)
    rw [ctp, ctp]
    by_cases q : P m = true
    · rw [if_pos q, if_pos (h2 q)]; omega
    · rw [if_neg q]; omega
theorem ctp_lt {P Q : Nat → Bool} : ∀ m, (∀ k, k < m → P k = true → Q k = true) → (∃ k, k < m ∧ P k = false ∧ Q k = true) → ctp P m < ctp Q m
  | 0, _, h => by obtain ⟨k, hk, _⟩ := h; omega
  | m + 1, h, ⟨k, hk, h3, h4⟩ => by
    have h1 := ctp_le m (fun k hk => h k (by omega))
    have h2 := h m (by omega)
    rw [ctp, ctp]
    rcases Nat.lt_or_ge k m with q | q
    · have := ctp_lt m (fun k hk => h k (by omega)) ⟨k, q, h3, h4⟩
      by_cases q2 : P m = true
      · rw [if_pos q2, if_pos (h2 q2)]; omega
      · rw [if_neg q2]; omega
    · have : k = m := by omega
      subst this
      rw [h3, h4]
      simp
      omega
theorem ctp_max (P : Nat → Bool) : ∀ m, ctp P m ≤ m
  | 0 => Nat.le_refl _
  | m + 1 => by
    have := ctp_max P m
    rw [ctp]
    split <;> omega
def tk (sk : ST) (f : Nat) : Nat := (8 * sk 6 f + sk 7 f).toNatClampNeg
def lowP (sk : ST) (τ : Nat) (k : Nat) : Bool := decide (¬ cm sk k = 0 ∧ tk sk k < τ)
def low (sk : ST) (τ : Nat) : Nat := ctp (lowP sk τ) 12
def rqd (sk : ST) (τ : Nat) : Prop := ∃ k, k < 12 ∧ ¬ cm sk k = 0 ∧ tk sk k = τ
section PV
variable {n nl r t h : Nat} {c : Int32} {sk sm : ST}
theorem Rel.tk_val (R : Rel n c nl r t h sk sm) {f : Nat} (hf : f < 12) (h0 : ¬ cm sk f = 0) : tk sk f < 40 ∧ 8 * sk 6 f + sk 7 f = nI (tk sk f) := by
  obtain ⟨c1, c2, p, v0, p1, v1, c3, c4, c5⟩ := R.coming hf h0
  have : tk sk f = 8 * p + v0 := by unfold tk; rw [c5, pz_tn (by omega)]
  rw [this]
  exact ⟨by omega, c5⟩
theorem Rel.tk_inj (R : Rel n c nl r t h sk sm) {f g : Nat} (hf : f < 12) (hg : g < 12) (h0 : ¬ cm sk f = 0) (h1 : ¬ cm sk g = 0) (e : tk sk f = tk sk g) : f = g := by
  obtain ⟨c1, c2, p, v, p1, v1, c3, c4, c5⟩ := R.coming hf h0
  obtain ⟨d1, d2, q, w, q1, w1, d3, d4, d5⟩ := R.coming hg h1
  have e1 : tk sk f = 8 * p + v := by unfold tk; rw [c5, pz_tn (by omega)]
  have e2 : tk sk g = 8 * q + w := by unfold tk; rw [d5, pz_tn (by omega)]
  have e3 : p = q := by omega
  have e4 : v = w := by omega
  subst e3
  subst e4
  exact R.2.2.2.2.2.1 f g hf hg (by rw [c3, d3]) (by rw [c4, d4]) c1
theorem Rel.low_yes (R : Rel n c nl r t h sk sm) {τ : Nat} (hr : rqd sk τ) : low sk (τ + 1) = low sk τ + 1 := by
  obtain ⟨k, hk, h1, h2⟩ := hr
  unfold low
  have := ctp_one (P := lowP sk τ) (Q := lowP sk (τ + 1)) (k0 := k) (by unfold lowP; exact decide_eq_false (fun z => by omega)) 12 (fun i hi => by
    unfold lowP
    by_cases q : ¬ cm sk i = 0
    · by_cases q2 : i = k
      · subst q2
        simp [q, h2]
      · have : tk sk i ≠ τ := fun z => q2 (R.tk_inj hi hk q h1 (by omega))
        simp [q, q2]
        omega
    · have q2 : ¬ i = k := fun z => q (by rw [z]; exact h1)
      have q3 : cm sk i = 0 := Decidable.not_not.mp q
      simp [q2, q3])
  rw [this, if_pos hk]
theorem Rel.low_no {τ : Nat} (hr : ¬ rqd sk τ) : low sk (τ + 1) = low sk τ := by
  unfold low
  refine ctp_cong 12 (fun i hi => ?_)
  unfold lowP
  by_cases q : ¬ cm sk i = 0
  · have : tk sk i ≠ τ := fun z => hr ⟨i, hi, q, z⟩
    simp [q]
    omega
  · have q3 : cm sk i = 0 := Decidable.not_not.mp q
    simp [q3]
theorem Rel.low_lt {τ σ : Nat} (hr : rqd sk τ) (hl : τ < σ) : low sk τ < low sk σ := by
  obtain ⟨k, hk, h1, h2⟩ := hr
  unfold low
  refine ctp_lt 12 (fun i hi => ?_) ⟨k, hk, ?_, ?_⟩
  · unfold lowP
    simp only [decide_eq_true_eq]
    exact fun z => ⟨z.1, by omega⟩
  · unfold lowP
    exact decide_eq_false (fun z => by omega)
  · unfold lowP
    exact decide_eq_true ⟨h1, by omega⟩
theorem Rel.low_0 : low sk 0 = 0 := by
  unfold low
  have : ctp (lowP sk 0) 12 = ctp (fun _ => false) 12 := ctp_cong 12 (fun i hi => by unfold lowP; exact decide_eq_false (fun z => by omega))
  rw [this]; rfl
theorem low_max (s : ST) (τ : Nat) : low s τ ≤ 12 := ctp_max _ 12
theorem Rel.isRequested (R : Rel n c nl r t h sk sm) {τ : Nat} (hτ : τ < 40) : (rqd sk τ ∧ FX0_isRequested (nI τ) sk = some (0, 1, sk)) ∨ (¬ rqd sk τ ∧ FX0_isRequested (nI τ) sk = some (0, 0, sk)) := by
  have loop : ∀ (j k fu : Nat), j + k = 12 → j < fu → (∀ i, i < k → ¬ (¬ cm sk i = 0 ∧ tk sk i = τ)) → (rqd sk τ ∧ FX0_isRequested_w2 fu (nI τ) (nI k) sk = some (0, 1, sk)) ∨ (¬ rqd sk τ ∧ FX0_isRequested_w2 fu (nI τ) (nI k) sk = some (0, 0, sk)) := by
    intro j
    induction j with
    | zero =>
      intro k fu hk hf hn
      obtain ⟨f, rfl⟩ : ∃ f, fu = f + 1 := ⟨fu - 1, by omega⟩
      obtain rfl : k = 12 := by omega
      exact Or.inr ⟨fun ⟨i, hi, z⟩ => hn i hi z, by rw [FX0_isRequested_w2, if_pos (by decide)]⟩
    | succ j ih =>
      intro k fu hk hf hn
      obtain ⟨f, rfl⟩ : ∃ f, fu = f + 1 := ⟨fu - 1, by omega⟩
      have hk12 : k < 12 := by omega
      have n12 : ¬ (12 : Int32) ≤ nI k := by rw [pz_le12 (by omega)]; omega
      have next : ¬ (¬ cm sk k = 0 ∧ tk sk k = τ) → (rqd sk τ ∧ FX0_isRequested_w2 f (nI τ) (nI (k + 1)) sk = some (0, 1, sk)) ∨ (¬ rqd sk τ ∧ FX0_isRequested_w2 f (nI τ) (nI (k + 1)) sk = some (0, 0, sk)) := fun h0 => ih (k + 1) f (by omega) (by omega) (fun i hi => by
        rcases Nat.lt_or_ge i k with q | q
        · exact hn i q
        · rw [show i = k by omega]; exact h0)
      rw [FX0_isRequested_w2, if_neg n12, F0_isComing_in hk12, pz_bnd, F0_trackOf_in hk12, pz_bnd, pz_1]
      by_cases h0 : cm sk k = 0
      · rw [if_pos h0]; exact next (fun z => z.1 h0)
      · obtain ⟨t1, t2⟩ := R.tk_val hk12 h0
        rw [if_neg h0, t2]
        by_cases h1 : tk sk k = τ
        · rw [if_pos (by rw [h1])]
          exact Or.inl ⟨⟨k, hk12, h0, h1⟩, rfl⟩
        · rw [if_neg (fun z => h1 ((pz_eq (by omega) (by omega)).mp z))]
          exact next (fun z => h1 z.2)
  exact loop 12 0 300 (by omega) (by omega) (fun i hi => by omega)
/-- the place a is at the track τ -/
def atP (sk : ST) (a : Int32) (τ : Nat) : Prop := rqd sk τ ∧ nI (low sk τ) = a
theorem Rel.req0 (R : Rel n c nl r t h sk sm) (a : Int32) : ∃ v, FX0_requestAt_w18 300 a 0 0 sk = some (0, v, sk) ∧ Fst (atP sk a) 40 v := by
  have loop : ∀ (j k fu : Nat), j + k = 40 → j < fu → (∀ i, i < k → ¬ atP sk a i) → ∃ v, FX0_requestAt_w18 fu a (nI (low sk k)) (nI k) sk = some (0, v, sk) ∧ Fst (atP sk a) 40 v := by
    intro j
    induction j with
    | zero =>
      intro k fu hk hf hn
      obtain ⟨f, rfl⟩ : ∃ f, fu = f + 1 := ⟨fu - 1, by omega⟩
      obtain rfl : k = 40 := by omega
      exact ⟨-1, by rw [FX0_requestAt_w18, if_pos (by decide)], Or.inr ⟨hn, rfl⟩⟩
    | succ j ih =>
      intro k fu hk hf hn
      obtain ⟨f, rfl⟩ : ∃ f, fu = f + 1 := ⟨fu - 1, by omega⟩
      have n40 : ¬ (40 : Int32) ≤ nI k := by rw [pz_le40 (by omega)]; omega
      have next : ¬ atP sk a k → ∃ v, FX0_requestAt_w18 f a (nI (low sk (k + 1))) (nI (k + 1)) sk = some (0, v, sk) ∧ Fst (atP sk a) 40 v := fun h0 => ih (k + 1) f (by omega) (by omega) (fun i hi => by
        rcases Nat.lt_or_ge i k with q | q
        · exact hn i q
        · rw [show i = k by omega]; exact h0)
      rw [FX0_requestAt_w18, if_neg n40]
      rcases R.isRequested (τ := k) (by omega) with ⟨r1, r2⟩ | ⟨r1, r2⟩
      · rw [r2, pz_bnd, if_neg (show ¬ (1 : Int32) = 0 by decide), pz_1, pz_1]
        by_cases h1 : nI (low sk k) = a
        · rw [if_pos h1]
          exact ⟨nI k, rfl, Or.inl ⟨k, by omega, ⟨r1, h1⟩, hn, rfl⟩⟩
        · rw [if_neg h1, ← R.low_yes r1]
          exact next (fun z => h1 z.2)
      · rw [r2, pz_bnd, if_pos rfl, pz_1]
        have e := Rel.low_no r1
        have := next (fun z => r1 z.1)
        rw [e] at this
        exact this
  have := loop 40 0 300 (by omega) (by omega) (fun i hi => by omega)
  rw [Rel.low_0] at this
  exact this
theorem Rel.req1 (R : Rel n c nl r t h sk sm) (a : Int32) : ∃ v, FX1_requestAt_w22 300 a (-1) 0 sm = some (0, v, sm) ∧ Fst (atP sk a) 40 v := by
  -- the inner loop
  have inner : ∀ (κ : Int32 → Int32 → Int32 → ST → Option Res) (z : Int32) (k : Nat), k < 12 → ¬ cm sk k = 0 → ∀ (j i fu : Nat), j + i = 12 → j < fu → FX1_requestAt_w34 κ fu a z (nI k) (nI (ctp (lowP sk (tk sk k)) i)) (nI i) sm = FX1_requestAt_j88 κ a z (nI k) (nI (low sk (tk sk k))) sm := by
    intro κ z k hk h0 j
    induction j with
    | zero =>
      intro i fu hi hf
      obtain ⟨f, rfl⟩ : ∃ f, fu = f + 1 := ⟨fu - 1, by omega⟩
      obtain rfl : i = 12 := by omega
      rw [FX1_requestAt_w34, if_pos (by decide)]
      rfl
    | succ j ih =>
      intro i fu hi hf
      obtain ⟨f, rfl⟩ : ∃ f, fu = f + 1 := ⟨fu - 1, by omega⟩
      have hi12 : i < 12 := by omega
      have n12 : ¬ (12 : Int32) ≤ nI i := by rw [pz_le12 (by omega)]; omega
      have I := ih (i + 1) f (by omega) (by omega)
      rw [ctp] at I
      obtain ⟨t1, t2⟩ := R.tk_val hk h0
      rw [FX1_requestAt_w34, if_neg n12, R.f1_isComing hk, pz_bnd, if_neg h0, R.f1_isComing hi12, pz_bnd, pz_1, pz_0]
      by_cases h1 : cm sk i = 0
      · have e : lowP sk (tk sk k) i = false := by unfold lowP; exact decide_eq_false (fun q => q.1 h1)
        rw [e] at I
        rw [if_pos h1]
        exact I
      · obtain ⟨u1, u2⟩ := R.tk_val hi12 h1
        rw [if_neg h1, R.f1_trackOf hi12, pz_bnd, R.f1_trackOf hk, pz_bnd, u2, t2]
        by_cases h2 : tk sk k ≤ tk sk i
        · have e : lowP sk (tk sk k) i = false := by unfold lowP; exact decide_eq_false (fun q => by omega)
          rw [e] at I
          rw [if_pos ((pz_le (by omega) (by omega)).mpr h2)]
          exact I
        · have e : lowP sk (tk sk k) i = true := by unfold lowP; exact decide_eq_true ⟨h1, by omega⟩
          rw [e, if_pos rfl] at I
          rw [if_neg (fun q => h2 ((pz_le (by omega) (by omega)).mp q)), pz_1]
          exact I
  have uq : ∀ τ σ, atP sk a τ → atP sk a σ → τ = σ := by
    intro τ σ h1 h2
    have e : low sk τ = low sk σ := (pz_eq (by have := low_max sk τ; omega) (by have := low_max sk σ; omega)).mp (by rw [h1.2, h2.2])
    rcases Nat.lt_trichotomy τ σ with q | q | q
    · have := Rel.low_lt h1.1 q; omega
    · exact q
    · have := Rel.low_lt h2.1 q; omega
  have loop : ∀ (j k fu : Nat) (v : Int32), j + k = 12 → j < fu → ((v = -1 ∧ ∀ i, i < k → ¬ cm sk i = 0 → ¬ atP sk a (tk sk i)) ∨ ∃ τ, τ < 40 ∧ v = nI τ ∧ atP sk a τ) → ∃ w, FX1_requestAt_w22 fu a v (nI k) sm = some (0, w, sm) ∧ Fst (atP sk a) 40 w := by
    intro j
    induction j with
    | zero =>
      intro k fu v hk hf hi
      obtain ⟨f, rfl⟩ : ∃ f, fu = f + 1 := ⟨fu - 1, by omega⟩
      obtain rfl : k = 12 := by omega
      refine ⟨v, by rw [FX1_requestAt_w22, if_pos (by decide)], ?_⟩
      rcases hi with ⟨q1, q2⟩ | ⟨τ, a1, a2, a3⟩
      · refine Or.inr ⟨fun τ hτ z => ?_, q1⟩
        obtain ⟨i, hi, b1, b2⟩ := z.1
        exact q2 i hi b1 (by rw [b2]; exact z)
      · exact Or.inl ⟨τ, a1, a3, fun σ hσ z => absurd (uq σ τ z a3) (by omega), a2⟩
    | succ j ih =>
      intro k fu v hk hf hi
      obtain ⟨f, rfl⟩ : ∃ f, fu = f + 1 := ⟨fu - 1, by omega⟩
      have hk12 : k < 12 := by omega
      have n12 : ¬ (12 : Int32) ≤ nI k := by rw [pz_le12 (by omega)]; omega
      have old : (¬ cm sk k = 0 → ¬ atP sk a (tk sk k)) → ((v = -1 ∧ ∀ i, i < k + 1 → ¬ cm sk i = 0 → ¬ atP sk a (tk sk i)) ∨ ∃ τ, τ < 40 ∧ v = nI τ ∧ atP sk a τ) := fun h0 => by
        rcases hi with ⟨q1, q2⟩ | q
        · refine Or.inl ⟨q1, fun i hi => ?_⟩
          rcases Nat.lt_or_ge i k with q | q
          · exact q2 i q
          · rw [show i = k by omega]; exact h0
        · exact Or.inr q
      rw [FX1_requestAt_w22, if_neg n12]
      by_cases h0 : cm sk k = 0
      · rw [show (300 : Nat) = 299 + 1 from rfl, FX1_requestAt_w34, if_neg (by decide), R.f1_isComing hk12, pz_bnd, if_pos h0, FX1_requestAt_j88, R.f1_isComing hk12, pz_bnd, if_pos h0, pz_1]
        exact ih (k + 1) f v (by omega) (by omega) (old (fun q => absurd h0 q))
      · obtain ⟨t1, t2⟩ := R.tk_val hk12 h0
        have I := inner (FX1_requestAt_w22 f) v k hk12 h0 12 0 300 (by omega) (by omega)
        rw [show nI (ctp (lowP sk (tk sk k)) 0) = 0 from rfl, show nI 0 = 0 from rfl] at I
        rw [I, FX1_requestAt_j88, R.f1_isComing hk12, pz_bnd, if_neg h0, R.f1_trackOf hk12, pz_bnd, t2, pz_1]
        by_cases h1 : nI (low sk (tk sk k)) = a
        · rw [if_pos h1]
          exact ih (k + 1) f (nI (tk sk k)) (by omega) (by omega) (Or.inr ⟨tk sk k, t1, rfl, ⟨k, hk12, h0, rfl⟩, h1⟩)
        · rw [if_neg h1]
          exact ih (k + 1) f v (by omega) (by omega) (old (fun _ q => h1 q.2))
  exact loop 12 0 300 (-1) (by omega) (by omega) (Or.inl ⟨rfl, fun i hi => by omega⟩)
end PV
