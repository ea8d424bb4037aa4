/-! A TICK: interest, alms, the disk, and all of it -/
section PN
variable {m n nl r t h j e : Nat} {c v b : Int32} {sk sm sk2 sm2 : ST} {o1 o2 : Option Res}
theorem Rel.pays : ∀ (i k fu fu2 n : Nat) (sk sm : ST), i + k = nl → i < fu → i < fu2 → Rel n c nl r t h sk sm → n + 9 * i ≤ 1000000000 → ∃ sk2 sm2, FX0_chargeLoans_w2 fu (nI k) sk = some (0, 0, sk2) ∧ FX1_pays_w2 fu2 (nI k) sm = some (0, 0, sm2) ∧ Rel (n + 9 * i) c nl r t h sk2 sm2 := by
  intro i
  induction i with
  | zero =>
    intro k fu fu2 n sk sm hk hf hf2 R hB
    obtain ⟨f, rfl⟩ : ∃ f, fu = f + 1 := ⟨fu - 1, by omega⟩
    obtain ⟨f2, rfl⟩ : ∃ f, fu2 = f + 1 := ⟨fu2 - 1, by omega⟩
    obtain rfl : k = nl := by omega
    have hnl := R.1.1.2.2
    have el : nI k ≤ nI k := (pz_le (by omega) (by omega)).mpr (Nat.le_refl k)
    exact ⟨sk, sm, by rw [FX0_chargeLoans_w2, R.1.1.1, if_pos el, ite_self], by rw [FX1_pays_w2, R.1.1.2.1, if_pos el], R⟩
  | succ i ih =>
    intro k fu fu2 n sk sm hk hf hf2 R hB
    obtain ⟨f, rfl⟩ : ∃ f, fu = f + 1 := ⟨fu - 1, by omega⟩
    obtain ⟨f2, rfl⟩ : ∃ f, fu2 = f + 1 := ⟨fu2 - 1, by omega⟩
    have hnl := R.1.1.2.2
    have hkn : k < nl := by omega
    have hk6 : k < 60 := by omega
    have n60 : ¬ (60 : Int32) ≤ nI k := by rw [pz_le60 (by omega)]; omega
    have nle : ¬ nI nl ≤ nI k := fun q => absurd ((pz_le (a := nl) (b := k) (by omega) (by omega)).mp q) (by omega)
    have g60 : ∀ o, gd (oz_in (nI k) 60) o = o := fun o => pz_gd (n := 60) (by omega) (by omega)
    have t60 : (nI k).toNatClampNeg = k := pz_tn (by omega)
    rw [FX0_chargeLoans_w2, FX1_pays_w2, R.1.1.1, R.1.1.2.1, if_neg n60, if_neg nle, if_neg nle, R.f1_doesLast hkn, pz_bnd, pz_1]
    simp only [g60, t60]
    by_cases h1 : sk 13 k = 0
    · rw [if_pos h1, if_pos h1, FX1_pays_j46, R.f1_doesLast hkn, pz_bnd, if_pos h1, pz_1]
      obtain ⟨sk2, sm2, q1, q2, q3⟩ := ih (k + 1) f f2 n sk sm (by omega) (by omega) (by omega) R (by omega)
      exact ⟨sk2, sm2, q1, q2, q3.mono (by omega)⟩
    · obtain ⟨g, p, q, a1, a2, a3, a4, a5, a6, a7, a8, a9⟩ := R.lasting hkn h1
      have g5p : ∀ o, gd (oz_in (nI p) 5) o = o := fun o => pz_gd a2 (by omega)
      have t5p : (nI p).toNatClampNeg = p := pz_tn (by omega)
      have g5q : ∀ o, gd (oz_in (nI q) 5) o = o := fun o => pz_gd a3 (by omega)
      have t5q : (nI q).toNatClampNeg = q := pz_tn (by omega)
      obtain ⟨⟨b1, b2, b3, b4⟩, -⟩ := R.2.2.2.2.1 k hk6
      obtain ⟨⟨-, x2, -, -⟩, -, u, u1, u2⟩ := R.2.1 q a3
      obtain ⟨⟨-, y2, -, -⟩, -, w, w1, w2⟩ := R.2.1 p a2
      have hr := R.1.2.1.2.2
      rw [if_neg h1, if_neg h1, FX0_charge]
      simp only [g60, t60]
      rw [a7, a6, F0_isProcess_in a3, pz_bnd, if_neg n10, F0_isProcess_in a2, pz_bnd, if_neg n10]
      rw [← b3, a7]
      simp only [g5q, g60, t5q]
      rw [R.1.2.1.1, R.1.2.1.2.1, ← x2, u2]
      by_cases h2 : nI r ≤ nI u
      · have hru : r ≤ u := (pz_le (by omega) (by omega)).mp h2
        rw [if_pos h2, if_pos h2, FX1_pays_j46, R.f1_doesLast hkn, pz_bnd, if_neg h1]
        have R1 := ((R.set_purse (n2 := n) (Nat.le_refl n) a3 (u := u - r) (by omega)).set_purse (n2 := n + 9) (by omega) a2 (u := w + r) (by omega)).set_int hkn (sk 14 k + nI r)
        have e1 : nI u - nI r = nI (u - r) := pz_sub hru
        have e2 : oz_se sk 2 q (nI (u - r)) 2 p + nI r = nI (w + r) := by rw [se_i a4, w2]; exact nI_add w r
        have e3 : oz_se sm 9 q (nI (u - r)) 9 p + nI r = nI (w + r) := by rw [se_i a4, ← y2, w2]; exact nI_add w r
        have k1 : ∀ a b' v', oz_se sk 2 a v' 0 b' = sk 0 b' := fun a b' v' => se_r (by decide)
        have m1 : ∀ a b' v', oz_se sm 9 a v' 0 b' = sm 0 b' := fun a b' v' => se_r (by decide)
        simp only [g60, t60, pz_stp]
        rw [← b3, a7]
        simp only [g5q, t5q, g60]
        have m14 : ∀ v', oz_se sm 9 q v' 14 k = nI p := fun v' => by rw [se_r (by decide), ← b2, a6]
        simp only [m14, g5p, t5p]
        rw [← x2, u2, R.1.2.1.2.1, e1]
        have k15 : oz_se sk 2 q (nI (u - r)) 0 15 = nI r := by rw [se_r (by decide)]; exact R.1.2.1.1
        have m15 : oz_se sm 9 q (nI (u - r)) 0 1 = nI r := by rw [se_r (by decide)]; exact R.1.2.1.2.1
        rw [k15, m15, e2, e3]
        have k16 : oz_se (oz_se sk 2 q (nI (u - r))) 2 p (nI (w + r)) 0 15 = nI r := by rw [se_r (by decide)]; exact k15
        have m16 : oz_se (oz_se sm 9 q (nI (u - r))) 9 p (nI (w + r)) 0 1 = nI r := by rw [se_r (by decide)]; exact m15
        have k17 : oz_se (oz_se sk 2 q (nI (u - r))) 2 p (nI (w + r)) 14 k = sk 14 k := by simp (disch := decide) only [se_r]
        have m17 : oz_se (oz_se sm 9 q (nI (u - r))) 9 p (nI (w + r)) 16 k = sk 14 k := by rw [b4]; simp (disch := decide) only [se_r]
        rw [k16, m16, k17, m17, pz_bnd, pz_1]
        obtain ⟨sk2, sm2, q1, q2, q3⟩ := ih (k + 1) f f2 (n + 9) _ _ (by omega) (by omega) (by omega) R1 (by omega)
        exact ⟨sk2, sm2, q1, q2, q3.mono (by omega)⟩
      · obtain ⟨s3, s4, d1, d2, d3, d4, d5⟩ := R.sleep a3
        rw [if_neg h2, if_neg h2, d1, d2, pz_bnd, pz_bnd, pz_bnd, FX1_pays_j46, d3.f1_doesLast hkn, pz_bnd, d4 k hkn (by rw [d5 k, a7]), if_pos rfl, pz_1]
        obtain ⟨sk2, sm2, q1, q2, q3⟩ := ih (k + 1) f f2 n _ _ (by omega) (by omega) (by omega) d3 (by omega)
        exact ⟨sk2, sm2, q1, q2, q3.mono (by omega)⟩
/-! alms -/
theorem Rel.alms_end (R : Rel n c nl r t h sk sm) {k : Nat} (hk : k < 5) (h2 : sk 3 k = 2) (f f2 : Nat) : ∃ sk2 sm2, FX0_giveAlms_j49 (FX0_giveAlms_w2 f) (nI k) sk = FX0_giveAlms_w2 f (nI (k + 1)) sk2 ∧ FX1_gives_j51 (FX1_gives_w2 f2) (nI k) sm = FX1_gives_w2 f2 (nI (k + 1)) sm2 ∧ Rel n c nl r t h sk2 sm2 := by
  have g5 : ∀ o, gd (oz_in (nI k) 5) o = o := fun o => pz_gd hk (by omega)
  have t5 : (nI k).toNatClampNeg = k := pz_tn (by omega)
  obtain ⟨⟨a1, a2, a3, a4⟩, -, u, u1, u2⟩ := R.2.1 k hk
  rw [FX0_giveAlms_j49, FX1_gives_j51]
  simp only [g5, t5, FX1_gives_j80, FX1_gives_j86, pz_stp, pz_1]
  rw [← a3, ← a2, if_pos h2]
  by_cases h5 : sk 2 k < 5
  · rw [if_pos h5, if_pos h5]
    have e : oz_se sm 10 k (sk 3 k) = sm := by rw [a3]; exact se_self sm 10 k
    rw [e]
    exact ⟨sk, sm, rfl, rfl, R⟩
  · rw [if_neg h5, if_neg h5]
    exact ⟨_, _, rfl, rfl, R.set_state hk 0⟩
theorem Rel.alms : ∀ (i k fu fu2 n : Nat) (sk sm : ST), i + k = 5 → i < fu → i < fu2 → Rel n c nl r t h sk sm → n + i ≤ 1000000000 → ∃ sk2 sm2, FX0_giveAlms_w2 fu (nI k) sk = some (0, 0, sk2) ∧ FX1_gives_w2 fu2 (nI k) sm = some (0, 0, sm2) ∧ Rel (n + i) c nl r t h sk2 sm2 := by
  intro i
  induction i with
  | zero =>
    intro k fu fu2 n sk sm hk hf hf2 R hB
    obtain ⟨f, rfl⟩ : ∃ f, fu = f + 1 := ⟨fu - 1, by omega⟩
    obtain ⟨f2, rfl⟩ : ∃ f, fu2 = f + 1 := ⟨fu2 - 1, by omega⟩
    obtain rfl : k = 5 := by omega
    exact ⟨sk, sm, by rw [FX0_giveAlms_w2, if_pos (by decide)], by rw [FX1_gives_w2, if_pos (by decide)], R⟩
  | succ i ih =>
    intro k fu fu2 n sk sm hk hf hf2 R hB
    obtain ⟨f, rfl⟩ : ∃ f, fu = f + 1 := ⟨fu - 1, by omega⟩
    obtain ⟨f2, rfl⟩ : ∃ f, fu2 = f + 1 := ⟨fu2 - 1, by omega⟩
    have n5 : ¬ (5 : Int32) ≤ nI k := by rw [pz_le5 (by omega)]; omega
    have hk5 : k < 5 := by omega
    have g5 : ∀ o, gd (oz_in (nI k) 5) o = o := fun o => pz_gd hk5 (by omega)
    have t5 : (nI k).toNatClampNeg = k := pz_tn (by omega)
    obtain ⟨⟨a1, a2, a3, a4⟩, -, u, u1, u2⟩ := R.2.1 k hk5
    rw [FX0_giveAlms_w2, FX1_gives_w2, if_neg n5, if_neg n5]
    simp only [g5, t5]
    rw [← a3]
    by_cases h2 : sk 3 k = 2
    · obtain ⟨v, v1, v2, v3⟩ := R.s_giver (by omega)
      rw [if_pos h2, if_pos h2, v1, v2, pz_bnd, pz_bnd]
      rcases v3 with rfl | ⟨g, g1, rfl, g3, w, w1, w3, w2⟩
      · rw [F0_isProcess_m1, pz_bnd, if_pos rfl, FX1_gives_j25, if_pos rfl]
        obtain ⟨s1, s2, b1, b2, b3⟩ := R.alms_end hk5 h2 f f2
        obtain ⟨sk2, sm2, q1, q2, q3⟩ := ih (k + 1) f f2 n _ _ (by omega) (by omega) (by omega) b3 (by omega)
        exact ⟨sk2, sm2, b1.trans q1, b2.trans q2, q3.mono (by omega)⟩
      · have hgk : g ≠ k := fun q => g3 (by rw [q]; exact h2)
        have g5g : ∀ o, gd (oz_in (nI g) 5) o = o := fun o => pz_gd g1 (by omega)
        have t5g : (nI g).toNatClampNeg = g := pz_tn (by omega)
        obtain ⟨⟨x1, x2, x3, x4⟩, -, w', y1, y2⟩ := R.2.1 g g1
        rw [F0_isProcess_in g1, pz_bnd, if_neg n10, FX1_gives_j25, if_neg (pz_m1 (by omega))]
        simp only [g5, t5, g5g, t5g, pz_stp]
        have hw' : w' = w := (pz_eq (by omega) w3).mp (y2.symm.trans w2)
        have e1 : sk 2 g - 1 = nI (w - 1) := by rw [w2]; exact pz_sub (b := 1) (by omega)
        have e2 : sm 9 g - 1 = nI (w - 1) := by rw [← x2]; exact e1
        rw [e1, e2]
        have e3 : oz_se sk 2 g (nI (w - 1)) 2 k + 1 = nI (u + 1) := by rw [se_i (Ne.symm hgk), u2]; exact pz_1 u
        have e4 : oz_se sm 9 g (nI (w - 1)) 9 k + 1 = nI (u + 1) := by rw [se_i (Ne.symm hgk), ← a2, u2]; exact pz_1 u
        rw [e3, e4]
        have R1 := (R.set_purse (n2 := n) (Nat.le_refl n) g1 (u := w - 1) (by omega)).set_purse (n2 := n + 1) (by omega) hk5 (u := u + 1) (by omega)
        obtain ⟨s1, s2, b1, b2, b3⟩ := R1.alms_end hk5 (by rw [se_r (by decide), se_r (by decide)]; exact h2) f f2
        obtain ⟨sk2, sm2, q1, q2, q3⟩ := ih (k + 1) f f2 (n + 1) _ _ (by omega) (by omega) (by omega) b3 (by omega)
        exact ⟨sk2, sm2, b1.trans q1, b2.trans q2, q3.mono (by omega)⟩
    · rw [if_neg h2, if_neg h2, FX1_gives_j25, if_pos rfl, FX1_gives_j51, pz_1]
      simp only [g5, t5, FX1_gives_j80, FX1_gives_j86, pz_stp, pz_1]
      rw [← a3, if_neg h2]
      have e : oz_se sm 10 k (sk 3 k) = sm := by rw [a3]; exact se_self sm 10 k
      rw [e]
      obtain ⟨sk2, sm2, q1, q2, q3⟩ := ih (k + 1) f f2 n sk sm (by omega) (by omega) (by omega) R (by omega)
      exact ⟨sk2, sm2, q1, q2, q3.mono (by omega)⟩
end PN
