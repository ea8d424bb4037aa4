/-! A TICK: wages, sleep, interest -/
section PM
variable {m n nl r t h j e : Nat} {c v b : Int32} {sk sm sk2 sm2 : ST} {o1 o2 : Option Res}
theorem Rel.wages : ∀ (i k fu fu2 n : Nat) (sk sm : ST), i + k = 5 → i < fu → i < fu2 → Rel n c nl r t h sk sm → ∃ sk2 sm2, FX0_payWages_w2 fu (nI k) sk = some (0, 0, sk2) ∧ (∀ k42 x1 x2, FX1_advance_w49 k42 fu2 x1 x2 (nI k) sm = (bnd (FX1_pays sm2) (fun _ s5 => bnd (FX1_gives s5) (fun _ s6 => bnd (FX1_turns s6) (fun _ s7 => stp (oz_se s7 0 0 ((s7 0 0) + 1)) (fun s8 => (k42 x1 (x2 + 1) s8))))))) ∧ Rel (n + 9 * i) c nl r t h sk2 sm2 := by
  intro i
  induction i with
  | zero =>
    intro k fu fu2 n sk sm hk hf hf2 R
    obtain ⟨f, rfl⟩ : ∃ f, fu = f + 1 := ⟨fu - 1, by omega⟩
    obtain ⟨f2, rfl⟩ : ∃ f, fu2 = f + 1 := ⟨fu2 - 1, by omega⟩
    obtain rfl : k = 5 := by omega
    exact ⟨sk, sm, by rw [FX0_payWages_w2, if_pos (by decide)], fun k42 x1 x2 => by rw [FX1_advance_w49, if_pos (by decide)], R⟩
  | succ i ih =>
    intro k fu fu2 n sk sm hk hf hf2 R
    obtain ⟨f, rfl⟩ : ∃ f, fu = f + 1 := ⟨fu - 1, by omega⟩
    obtain ⟨f2, rfl⟩ : ∃ f, fu2 = f + 1 := ⟨fu2 - 1, by omega⟩
    have n5 : ¬ (5 : Int32) ≤ nI k := by rw [pz_le5 (by omega)]; omega
    have hk5 : k < 5 := by omega
    have g5 : ∀ o, gd (oz_in (nI k) 5) o = o := fun o => pz_gd hk5 (by omega)
    have t5 : (nI k).toNatClampNeg = k := pz_tn (by omega)
    obtain ⟨⟨a1, a2, a3, a4⟩, ⟨w, w1, w2⟩, u, u1, u2⟩ := R.2.1 k hk5
    by_cases h2 : sk 3 k = 2
    · obtain ⟨sk2, sm2, q1, q2, q3⟩ := ih (k + 1) f f2 n sk sm (by omega) (by omega) (by omega) R
      refine ⟨sk2, sm2, ?_, fun k42 x1 x2 => ?_, q3.mono (by omega)⟩
      · rw [FX0_payWages_w2, if_neg n5]
        simp only [g5, t5]
        rw [if_pos h2, pz_1, q1]
      · rw [FX1_advance_w49, if_neg n5]
        simp only [g5, t5]
        rw [← a3, if_pos h2, FX1_advance_j81, g5, pz_stp, t5, pz_0, se_self, pz_1, q2]
    · have R1 := R.set_purse (n2 := n + 9) (by omega) hk5 (u := u + w) (by omega)
      obtain ⟨sk2, sm2, q1, q2, q3⟩ := ih (k + 1) f f2 (n + 9) _ _ (by omega) (by omega) (by omega) R1
      refine ⟨sk2, sm2, ?_, fun k42 x1 x2 => ?_, q3.mono (by omega)⟩
      · rw [FX0_payWages_w2, if_neg n5]
        simp only [g5, t5]
        rw [if_neg h2, pz_stp, pz_1, u2, w2, nI_add, q1]
      · rw [FX1_advance_w49, if_neg n5]
        simp only [g5, t5]
        rw [← a3, if_neg h2, FX1_advance_j81, g5, pz_stp, t5, pz_1, ← a1, ← a2, u2, w2, nI_add, q2]
/-! sleep -/
theorem cm_dp {s : ST} {f i : Nat} (h : i ≠ f) : cm (dp s f) i = cm s i := by
  unfold cm
  rw [dp_r (Or.inl (by decide)) (Or.inr h) (Or.inl (by decide)), dp_r (Or.inl (by decide)) (Or.inl (by decide)) (Or.inr h)]
/-- no frame below k that x holds waits for its page -/
def calm (s : ST) (x : Int32) (k : Nat) : Prop := ∀ i, i < k → s 6 i = x → cm s i = 0
/-- no loan below k that x took lasts -/
def ended (s : ST) (x : Int32) (k : Nat) : Prop := ∀ i, i < k → s 12 i = x → s 13 i = 0
theorem Rel.sleep1 (x : Int32) : ∀ (i k fu fu2 : Nat) (sk sm : ST), i + k = 12 → i < fu → i < fu2 → Rel n c nl r t h sk sm → calm sk x k → ∃ sk2 sm2, FX0_putToSleep_w2 fu x (nI k) sk = FX0_putToSleep_w39 300 x 0 sk2 ∧ FX1_sleeps_w2 fu2 x (nI k) sm = FX1_sleeps_w60 300 x 0 sm2 ∧ Rel n c nl r t h sk2 sm2 ∧ calm sk2 x 12 ∧ ∀ l, sk2 12 l = sk 12 l := by
  intro i
  induction i with
  | zero =>
    intro k fu fu2 sk sm hk hf hf2 R hc
    obtain ⟨f, rfl⟩ : ∃ f, fu = f + 1 := ⟨fu - 1, by omega⟩
    obtain ⟨f2, rfl⟩ : ∃ f, fu2 = f + 1 := ⟨fu2 - 1, by omega⟩
    obtain rfl : k = 12 := by omega
    exact ⟨sk, sm, by rw [FX0_putToSleep_w2, if_pos (by decide)], by rw [FX1_sleeps_w2, if_pos (by decide)], R, hc, fun _ => rfl⟩
  | succ i ih =>
    intro k fu fu2 sk sm hk hf hf2 R hc
    obtain ⟨f, rfl⟩ : ∃ f, fu = f + 1 := ⟨fu - 1, by omega⟩
    obtain ⟨f2, rfl⟩ : ∃ f, fu2 = f + 1 := ⟨fu2 - 1, by omega⟩
    have n12 : ¬ (12 : Int32) ≤ nI k := by rw [pz_le12 (by omega)]; omega
    have hk12 : k < 12 := by omega
    have g12 : ∀ o, gd (oz_in (nI k) 12) o = o := fun o => pz_gd hk12 (by omega)
    have t12 : (nI k).toNatClampNeg = k := pz_tn (by omega)
    rw [FX0_putToSleep_w2, FX1_sleeps_w2, if_neg n12, if_neg n12, R.f1_holderOf hk12, pz_bnd, F0_isComing_in hk12, R.f1_isComing hk12, pz_bnd, pz_bnd, F0_dropPage_in hk12, pz_bnd, pz_1]
    simp only [g12, t12]
    have next : (sk 6 k = x → cm sk k = 0) → calm sk x (k + 1) := fun z l hl e => by
      rcases Nat.lt_or_ge l k with q | q
      · exact hc l q e
      · obtain rfl : l = k := by omega
        exact z e
    by_cases h1 : sk 6 k = x
    · rw [if_pos h1, if_pos h1]
      by_cases h2 : cm sk k = 0
      · rw [if_pos h2, if_pos h2]
        exact ih (k + 1) f f2 sk sm (by omega) (by omega) (by omega) R (next (fun _ => h2))
      · rw [if_neg h2, if_neg h2]
        have hc2 : calm (dp sk k) x (k + 1) := fun l hl e => by
          by_cases q : l = k
          · subst q; exact cm_empty dp_7
          · rw [cm_dp q]
            rw [dp_r (Or.inl (by decide)) (Or.inl (by decide)) (Or.inl (by decide))] at e
            exact hc l (by omega) e
        obtain ⟨sk2, sm2, q1, q2, q3, q4, q5⟩ := ih (k + 1) f f2 _ _ (by omega) (by omega) (by omega) (R.drop hk12) hc2
        refine ⟨sk2, sm2, q1, ?_, q3, q4, fun l => by rw [q5 l, dp_r (Or.inl (by decide)) (Or.inl (by decide)) (Or.inl (by decide))]⟩
        unfold chf at q2
        rw [R.2.2.2.2.2.2.1] at q2
        by_cases h3 : sm 0 17 = nI k
        · rw [if_pos h3] at q2
          rw [if_pos h3, FX1_sleeps_j42, pz_stp, g12, pz_stp, t12, pz_1, q2]
        · rw [if_neg h3] at q2
          rw [if_neg h3, FX1_sleeps_j42, pz_stp, g12, pz_stp, t12, pz_1, q2]
    · rw [if_neg h1, if_neg h1]
      exact ih (k + 1) f f2 sk sm (by omega) (by omega) (by omega) R (next (fun z => absurd z h1))
theorem Rel.lasting (R : Rel n c nl r t h sk sm) (hj : j < nl) (h13 : ¬ sk 13 j = 0) : ∃ g p q, g < 12 ∧ p < 5 ∧ q < 5 ∧ p ≠ q ∧ sk 10 j = nI g ∧ sk 11 j = nI p ∧ sk 12 j = nI q ∧ sm 7 g = nI j ∧ sk 6 g = nI q := by
  have hnl := R.1.1.2.2
  obtain ⟨g, p, q, a1, a2, a3, a4, a5, a6, a7, a8⟩ := R.2.2.2.1 j hj
  have hs : sm 7 g = nI j := a8.elim (fun z => z.2) (fun z => absurd z.1 h13)
  refine ⟨g, p, q, a1, a2, a3, a4, a5, a6, a7, hs, ?_⟩
  rcases (R.2.2.1 g a1).2.2.2.2.2.1 with ⟨b1, b2⟩ | ⟨j9, b1, b2, b3, b4, b5⟩
  · rw [hs] at b1; exact absurd b1 (pz_m1 (by omega))
  · have : j9 = j := (pz_eq (by omega) (by omega)).mp (by rw [← b2, hs])
    subst this
    rw [b4, a7]
theorem eK_12 {g i : Nat} : eK sk j g 12 i = sk 12 i := by unfold eK; rw [se_r (by decide), se_r (by decide), dp_r (Or.inl (by decide)) (Or.inl (by decide)) (Or.inl (by decide))]
theorem eK_13 {g i : Nat} : eK sk j g 13 i = if i = j then 0 else sk 13 i := by
  unfold eK
  rw [se_r (by decide), oz_se_at]
  by_cases q : i = j
  · rw [if_pos ⟨rfl, q⟩, if_pos q]
  · rw [if_neg (fun z => q z.2), if_neg q, dp_r (Or.inl (by decide)) (Or.inl (by decide)) (Or.inl (by decide))]
theorem cm_eK {g i : Nat} (h0 : cm sk i = 0 ∨ i = g) : cm (eK sk j g) i = 0 := by
  by_cases q : i = g
  · subst q
    exact cm_empty (by unfold eK; rw [se_r (by decide), se_r (by decide), dp_7])
  · have e : cm (eK sk j g) i = cm sk i := by
      rw [← cm_dp (s := sk) q]
      unfold cm eK
      simp (disch := decide) only [se_r]
    rw [e]; exact h0.elim id (fun z => absurd z q)
theorem eK_6 {g i : Nat} (q : i ≠ g) : eK sk j g 6 i = sk 6 i := by unfold eK; rw [se_i q, se_r (by decide), dp_r (Or.inl (by decide)) (Or.inl (by decide)) (Or.inl (by decide))]
theorem Rel.sleep2 {p : Nat} (hp : p < 5) : ∀ (i k fu fu2 : Nat) (sk sm : ST), i + k = nl → i < fu → i < fu2 → Rel n c nl r t h sk sm → calm sk (nI p) 12 → ended sk (nI p) k → ∃ sk2 sm2, FX0_putToSleep_w39 fu (nI p) (nI k) sk = some (0, 0, sk2) ∧ FX1_sleeps_w60 fu2 (nI p) (nI k) sm = some (0, 0, sm2) ∧ Rel n c nl r t h sk2 sm2 ∧ ended sk2 (nI p) nl ∧ ∀ l, sk2 12 l = sk 12 l := by
  have g5 : ∀ o, gd (oz_in (nI p) 5) o = o := fun o => pz_gd hp (by omega)
  have t5 : (nI p).toNatClampNeg = p := pz_tn (by omega)
  intro i
  induction i with
  | zero =>
    intro k fu fu2 sk sm hk hf hf2 R hc he
    obtain ⟨f, rfl⟩ : ∃ f, fu = f + 1 := ⟨fu - 1, by omega⟩
    obtain ⟨f2, rfl⟩ : ∃ f, fu2 = f + 1 := ⟨fu2 - 1, by omega⟩
    obtain rfl : k = nl := by omega
    have hnl := R.1.1.2.2
    have el : nI k ≤ nI k := (pz_le (by omega) (by omega)).mpr (Nat.le_refl k)
    refine ⟨oz_se sk 3 p 2, oz_se sm 10 p 2, ?_, ?_, R.set_state hp 2, fun l hl e => ?_, fun l => se_r (by decide)⟩
    · rw [FX0_putToSleep_w39, R.1.1.1, if_pos el, ite_self, FX0_putToSleep_j83, g5, pz_stp, t5]
    · rw [FX1_sleeps_w60, R.1.1.2.1, if_pos el, g5, pz_stp, t5]
    · rw [se_r (by decide)] at e ⊢
      exact he l hl e
  | succ i ih =>
    intro k fu fu2 sk sm hk hf hf2 R hc he
    obtain ⟨f, rfl⟩ : ∃ f, fu = f + 1 := ⟨fu - 1, by omega⟩
    obtain ⟨f2, rfl⟩ : ∃ f, fu2 = f + 1 := ⟨fu2 - 1, by omega⟩
    have hnl := R.1.1.2.2
    have hkn : k < nl := by omega
    have n60 : ¬ (60 : Int32) ≤ nI k := by rw [pz_le60 (by omega)]; omega
    have nle : ¬ nI nl ≤ nI k := fun q => absurd ((pz_le (a := nl) (b := k) (by omega) (by omega)).mp q) (by omega)
    have g60 : ∀ o, gd (oz_in (nI k) 60) o = o := fun o => pz_gd (n := 60) (by omega) (by omega)
    have t60 : (nI k).toNatClampNeg = k := pz_tn (by omega)
    have next : (sk 12 k = nI p → sk 13 k = 0) → ended sk (nI p) (k + 1) := fun z l hl e => by
      rcases Nat.lt_or_ge l k with q | q
      · exact he l q e
      · obtain rfl : l = k := by omega
        exact z e
    rw [FX0_putToSleep_w39, FX1_sleeps_w60, R.1.1.1, R.1.1.2.1, if_neg n60, if_neg nle, if_neg nle, R.f1_doesLast hkn, pz_bnd, pz_1]
    simp only [g60, t60]
    rw [← (R.2.2.2.2.1 k (by omega)).1.2.2.1]
    by_cases h1 : sk 13 k = 0
    · rw [if_pos h1, if_pos h1]
      exact ih (k + 1) f f2 sk sm (by omega) (by omega) (by omega) R hc (next (fun _ => h1))
    · rw [if_neg h1, if_neg h1]
      by_cases h2 : sk 12 k = nI p
      · obtain ⟨g, p', q', a1, a2, a3, a4, a5, a6, a7, a8, a9⟩ := R.lasting hkn h1
        have h0 : cm sk g = 0 := hc g a1 (by rw [a9, ← a7, h2])
        obtain ⟨d1, d2, d3⟩ := R.s_end hkn a1 a5 a8 h0
        rw [if_pos h2, if_pos h2, d1, d2, pz_bnd, pz_bnd]
        obtain ⟨sk2, sm2, q1, q2, q3, q4, q5⟩ := ih (k + 1) f f2 _ _ (by omega) (by omega) (by omega) d3 (fun l hl e => by
          by_cases q : l = g
          · exact cm_eK (Or.inr q)
          · rw [eK_6 q] at e
            exact cm_eK (Or.inl (hc l hl e))) (fun l hl e => by
          rw [eK_12] at e
          rw [eK_13]
          by_cases q : l = k
          · rw [if_pos q]
          · rw [if_neg q]; exact he l (by omega) e)
        exact ⟨sk2, sm2, q1, q2, q3, q4, fun l => by rw [q5 l, eK_12]⟩
      · rw [if_neg h2, if_neg h2]
        exact ih (k + 1) f f2 sk sm (by omega) (by omega) (by omega) R hc (next (fun z => absurd z h2))
theorem Rel.sleep (R : Rel n c nl r t h sk sm) {p : Nat} (hp : p < 5) : ∃ sk2 sm2, FX0_putToSleep (nI p) sk = some (0, 0, sk2) ∧ FX1_sleeps (nI p) sm = some (0, 0, sm2) ∧ Rel n c nl r t h sk2 sm2 ∧ ended sk2 (nI p) nl ∧ ∀ l, sk2 12 l = sk 12 l := by
  have hnl := R.1.1.2.2
  obtain ⟨s1, s2, a1, a2, a3, a4, a5⟩ := Rel.sleep1 (nI p) 12 0 300 300 sk sm (by omega) (by omega) (by omega) R (fun i hi => by omega)
  obtain ⟨s3, s4, b1, b2, b3, b4, b5⟩ := Rel.sleep2 hp nl 0 300 300 s1 s2 (by omega) (by omega) (by omega) a3 a4 (fun i hi => by omega)
  have a1' : FX0_putToSleep_w2 300 (nI p) 0 sk = FX0_putToSleep_w39 300 (nI p) 0 s1 := a1
  have a2' : FX1_sleeps_w2 300 (nI p) 0 sm = FX1_sleeps_w60 300 (nI p) 0 s2 := a2
  have b1' : FX0_putToSleep_w39 300 (nI p) 0 s1 = some (0, 0, s3) := b1
  have b2' : FX1_sleeps_w60 300 (nI p) 0 s2 = some (0, 0, s4) := b2
  exact ⟨s3, s4, by unfold FX0_putToSleep; rw [a1', b1'], by unfold FX1_sleeps; rw [a2', b2'], b3, b4, fun l => by rw [b5 l, a5 l]⟩
end PM
