/-! TOUCH, AS A WHOLE -/
section PL
variable {m n nl r t h j e : Nat} {c v b : Int32} {sk sm sk2 sm2 : ST} {cv : Int32 → Int64} {hs : List (Nat × Int32)} {o1 o2 : Option Res}
theorem F0_isPage_val (a : Int32) (s : ST) : (∃ k, k < 8 ∧ a = nI k ∧ FX0_isPage a s = some (0, 1, s) ∧ ∀ u, FX1_isIn a 0 7 u = some (0, 1, u)) ∨ (FX0_isPage a s = some (0, 0, s) ∧ ∀ u, FX1_isIn a 0 7 u = some (0, 0, u)) := by
  unfold FX0_isPage
  by_cases h0 : a < 0
  · exact Or.inr ⟨by rw [if_pos h0], fun u => by rw [F1_isIn_val, if_pos h0]⟩
  · by_cases h1 : 7 < a
    · exact Or.inr ⟨by rw [if_neg h0, if_pos (pz_up (M := 8) rfl h1)], fun u => by rw [F1_isIn_val, if_neg h0, if_pos h1]⟩
    · obtain ⟨k, k1, rfl⟩ := nI_of2 (M := 7) (n := 7) rfl h0 (Int32.not_lt.mp h1)
      have e8 : ¬ (8 : Int32) ≤ nI k := by rw [pz_le8 (by omega)]; omega
      exact Or.inl ⟨k, by omega, rfl, by rw [if_neg h0, if_neg e8], fun u => by rw [F1_isIn_val, if_neg h0, if_neg h1]⟩
theorem Rel.s_got {p v f : Nat} (hp : p < 5) (hv : v < 8) (G : Got n c r t h p v sk sk2 sm2 f) : ∃ nl2 x, Rel n 0 nl2 r t h (oz_se (oz_se (oz_se (oz_se sk2 7 f (nI v)) 8 f 0) 3 p 1) 4 p x) (oz_se (oz_se (oz_se (oz_se (oz_se sm2 0 18 0) 4 f (nI v)) 5 f 0) 10 p 1) 11 p x) ∧ sk2 4 p + 1 = x ∧ sm2 11 p + 1 = x := by
  obtain ⟨hf, ⟨nl2, RG⟩, ho, hc, hu⟩ := G
  have R1 := ((RG.thr 0).setpage hf hp hv (by rw [dp_r (Or.inl (by decide)) (Or.inl (by decide)) (Or.inl (by decide))]; exact ho) dp_7 (fun i hi hif => by
    rw [dp_r (Or.inl (by decide)) (Or.inl (by decide)) (Or.inl (by decide)), dp_r (Or.inl (by decide)) (Or.inr hif) (Or.inl (by decide))]
    exact hu i hi hif)).set_state hp 1
  have x4 := (RG.2.1 p hp).1.2.2.2
  rw [dp_r (Or.inl (by decide)) (Or.inl (by decide)) (Or.inl (by decide)), se_r (by decide)] at x4
  rw [dp_set hc, se_comm sm2 (r := 4) (r2 := 0) _ _ _ _ (by decide), se_twice] at R1
  exact ⟨nl2, sk2 4 p + 1, R1.set_fault hp _, rfl, by rw [x4]⟩
theorem c_touch (R : Rel n c nl r t h sk sm) (hn : n ≤ 20 + 4 * j + 590 * t) (hB : n ≤ 1000000000) (a q : Int32) : Sim cv [(1, 1), (2, 2)] j (FX0_touch a q sk) (FX1_touch a q sm) := by
  unfold FX0_touch FX1_touch
  have R0 := R.thr 0
  rcases prc a with ⟨p, hp, rfl⟩ | ⟨h1, h2⟩
  · have g5 : ∀ o, gd (oz_in (nI p) 5) o = o := fun o => pz_gd hp (by omega)
    have t5 : (nI p).toNatClampNeg = p := pz_tn (by omega)
    rw [F0_isProcess_in hp, F1_isProcess_in hp, pz_bnd, pz_bnd, if_neg n10, if_neg n10]
    rcases F0_isPage_val q sk with ⟨v, hv, rfl, i1, i2⟩ | ⟨i1, i2⟩
    · rw [i1, i2, pz_bnd, pz_bnd, if_neg n10, if_neg n10]
      simp only [g5, t5]
      rw [← (R.2.1 p hp).1.2.2.1]
      by_cases h3 : sk 3 p = 0
      · obtain ⟨z, z1, z2, z3⟩ := R0.s_with (nI p) hv
        rw [if_pos h3, if_pos h3, z1, pz_bnd, FX1_touch_j36, F1_goes0, pz_bnd, if_neg n10, z2, pz_bnd]
        rcases z3 with ⟨f, f1, f2, f3, rfl⟩ | ⟨f1, rfl⟩
        · have g12 : ∀ o, gd (oz_in (nI f) 12) o = o := fun o => pz_gd f1 (by omega)
          have t12 : (nI f).toNatClampNeg = f := pz_tn (by omega)
          rw [F0_isFrame_in f1, pz_bnd, if_neg n10, if_neg (pz_m1 (by omega))]
          simp only [g12, t12, pz_stp]
          rw [R0.1.2.2.1.1, R0.1.2.2.1.2.1]
          exact Sim.ok rfl rfl (R0.settouch f1) hn rfl
        · rw [F0_isFrame_m1, pz_bnd, if_pos rfl, if_pos rfl]
          have bad : ∀ y, Sim cv [(1, 1), (2, 2)] j (some (2, 0, sk)) (FX1_touch_j84 (nI p) (nI v) y 2 (oz_se sm 0 18 0)) := fun y => by
            rw [FX1_touch_j84, F1_goes2, pz_bnd, if_pos rfl]
            exact Sim.no rfl rfl (R0.thr 2) hn (by decide) rfl (by decide)
          rcases R0.s_fault hB hp f1 with ⟨f, sk2, sm2, a1, a2, a3⟩ | ⟨a1, a2⟩ | ⟨a1, a2⟩
          · have hf := a3.1
            have g12 : ∀ o, gd (oz_in (nI f) 12) o = o := fun o => pz_gd hf (by omega)
            have t12 : (nI f).toNatClampNeg = f := pz_tn (by omega)
            have f0 : (0 : Int32) ≤ nI f := nI_pos' (by omega)
            obtain ⟨nl2, x, R2, x1, x2⟩ := Rel.s_got hp hv a3
            rw [a1, a2, pz_bnd, pz_bnd, F0_isFrame_in hf, pz_bnd, if_neg n10, if_pos f0, FX1_touch_j84, F1_goes0, pz_bnd, if_neg n10]
            simp only [g5, t5, g12, t12, pz_stp]
            have e1 : oz_se (oz_se (oz_se sk2 7 f (nI v)) 8 f 0) 3 p 1 4 p + 1 = x := by rw [← x1]; simp (disch := decide) only [se_r]
            have e2 : oz_se (oz_se (oz_se (oz_se sm2 0 18 0) 4 f (nI v)) 5 f 0) 10 p 1 11 p + 1 = x := by rw [← x2]; simp (disch := decide) only [se_r]
            rw [e1, e2]
            exact Sim.ok rfl rfl R2 hn rfl
          · rw [a1, a2, pz_bnd, pz_bnd, F0_isFrame_m1, pz_bnd, if_pos rfl, if_neg (by decide)]
            exact bad _
          · rw [a1, a2, pz_bnd, if_neg (by decide)]
            exact bad _
      · rw [if_neg h3, if_neg h3, FX1_touch_j36, F1_goes2, pz_bnd, if_pos rfl]
        exact Sim.no rfl rfl (R.thr 2) hn (by decide) rfl (by decide)
    · rw [i1, i2, pz_bnd, pz_bnd, if_pos rfl, if_pos rfl, FX1_touch_j36, F1_goes1, pz_bnd, if_pos rfl]
      exact Sim.no rfl rfl (R.thr 1) hn (by decide) rfl (by decide)
  · rw [h1, h2, pz_bnd, pz_bnd, if_pos rfl, if_pos rfl, FX1_touch_j36, F1_goes1, pz_bnd, if_pos rfl]
    exact Sim.no rfl rfl (R.thr 1) hn (by decide) rfl (by decide)
end PL
