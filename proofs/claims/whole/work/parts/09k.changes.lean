/-! THE CALLS THAT CHANGE THE STATE, but the tick -/
theorem pz_sub {a b : Nat} (h : b ≤ a) : nI a - nI b = nI (a - b) := by
  have e := nI_add (a - b) b
  rw [show a - b + b = a by omega] at e
  rw [← e, Int32.add_sub_cancel]
theorem dp_set {s : ST} {f : Nat} {v : Int32} (h : s 0 18 ≠ nI f) : oz_se (oz_se (dp s f) 7 f v) 8 f 0 = oz_se (oz_se s 7 f v) 8 f 0 := by
  unfold dp chf
  rw [if_neg h]
  funext a b
  simp only [oz_se_at]
  by_cases h1 : a = 8 ∧ b = f
  · rw [if_pos h1, if_pos h1]
  · by_cases h2 : a = 7 ∧ b = f
    · simp only [if_neg h1, if_pos h2]
    · by_cases h3 : a = 0 ∧ b = 18
      · simp [h3]
      · simp only [if_neg h1, if_neg h2, if_neg h3]
section PK
variable {m n nl r t h j e : Nat} {c v b : Int32} {sk sm sk2 sm2 : ST} {cv : Int32 → Int64} {hs : List (Nat × Int32)} {o1 o2 : Option Res}
theorem c_setWage (R : Rel n c nl r t h sk sm) (hn : n ≤ 20 + 4 * j + 590 * t) (a w : Int32) : Sim cv [(1, 1), (3, 2)] j (FX0_setWage a w sk) (FX1_setWage a w sm) := by
  unfold FX0_setWage FX1_setWage
  rcases prc a with ⟨k, hk, rfl⟩ | ⟨h1, h2⟩
  · have g5 : ∀ o, gd (oz_in (nI k) 5) o = o := fun o => pz_gd hk (by omega)
    have t5 : (nI k).toNatClampNeg = k := pz_tn (by omega)
    rw [F0_isProcess_in hk, F1_isProcess_in hk, pz_bnd, pz_bnd, if_neg n10, if_neg n10, F1_isIn_val, pz_bnd]
    by_cases h0 : w < 0
    · rw [if_pos h0, if_pos h0, if_pos rfl, FX1_setWage_j27, F1_goes2, pz_bnd, if_pos rfl]
      exact Sim.no rfl rfl (R.thr 2) hn (by decide) rfl (by decide)
    · rw [if_neg h0, if_neg h0]
      by_cases h9 : w ≤ 9
      · obtain ⟨u, u1, rfl⟩ := nI_of2 (M := 9) (n := 9) rfl h0 h9
        rw [if_pos h9, if_neg (Int32.not_lt.mpr h9), if_neg n10, FX1_setWage_j27, F1_goes0, pz_bnd, if_neg n10]
        simp only [g5, pz_stp, t5]
        exact Sim.ok rfl rfl ((R.thr 0).set_wage hk u1) hn ((R.thr 0).2.1 k hk).1.1
      · rw [if_neg h9, if_pos (Int32.not_le.mp h9), if_pos rfl, FX1_setWage_j27, F1_goes2, pz_bnd, if_pos rfl]
        exact Sim.no rfl rfl (R.thr 2) hn (by decide) rfl (by decide)
  · rw [h1, h2, pz_bnd, pz_bnd, if_pos rfl, if_pos rfl, FX1_setWage_j27, F1_goes1, pz_bnd, if_pos rfl]
    exact Sim.no rfl rfl (R.thr 1) hn (by decide) rfl (by decide)
theorem c_setRate (R : Rel n c nl r t h sk sm) (hn : n ≤ 20 + 4 * j + 590 * t) (w : Int32) : Sim cv [(3, 1)] j (FX0_setRate w sk) (FX1_setRate w sm) := by
  unfold FX0_setRate FX1_setRate
  rw [F1_isIn_val, pz_bnd]
  by_cases h0 : w < 0
  · rw [if_pos h0, if_pos h0, if_pos rfl, FX1_setRate_j16, F1_goes1, pz_bnd, if_pos rfl]
    exact Sim.no rfl rfl (R.thr 1) hn (by decide) rfl (by decide)
  · rw [if_neg h0, if_neg h0]
    by_cases h9 : w ≤ 9
    · obtain ⟨u, u1, rfl⟩ := nI_of2 (M := 9) (n := 9) rfl h0 h9
      rw [if_pos h9, if_neg (Int32.not_lt.mpr h9), if_neg n10, FX1_setRate_j16, F1_goes0, pz_bnd, if_neg n10]
      simp only [pz_stp]
      exact Sim.ok rfl rfl ((R.thr 0).set_rate u1) hn ((R.thr 0).1.2.1.1.trans (R.thr 0).1.2.1.2.1.symm)
    · rw [if_neg h9, if_pos (Int32.not_le.mp h9), if_pos rfl, FX1_setRate_j16, F1_goes1, pz_bnd, if_pos rfl]
      exact Sim.no rfl rfl (R.thr 1) hn (by decide) rfl (by decide)
theorem c_buy (R : Rel n c nl r t h sk sm) (hn : n ≤ 20 + 4 * j + 590 * t) (hB : n ≤ 1000000000) (a : Int32) : Sim cv [(1, 1), (2, 2)] j (FX0_buy a sk) (FX1_buy a sm) := by
  unfold FX0_buy FX1_buy
  obtain ⟨v, v1, v2, v3⟩ := R.s_free
  rw [v2, pz_bnd]
  rcases prc a with ⟨k, hk, rfl⟩ | ⟨h1, h2⟩
  · have g5 : ∀ o, gd (oz_in (nI k) 5) o = o := fun o => pz_gd hk (by omega)
    have t5 : (nI k).toNatClampNeg = k := pz_tn (by omega)
    have R0 := R.thr 0
    obtain ⟨⟨p1, p2, p3, p4⟩, -, u, u1, u2⟩ := R0.2.1 k hk
    rw [F0_isProcess_in hk, F1_isProcess_in hk, pz_bnd, pz_bnd, if_neg n10, if_neg n10, FX1_buy_j18, F1_goes0, pz_bnd, if_neg n10]
    simp only [g5, t5]
    rw [← p3, ← p2, u2]
    have bad : Sim cv [(1, 1), (2, 2)] j (some (2, 0, sk)) (FX1_buy_j56 (nI k) v 2 (oz_se sm 0 18 0)) := by
      rw [FX1_buy_j56, F1_goes2, pz_bnd, if_pos rfl]
      exact Sim.no rfl rfl (R0.thr 2) hn (by decide) rfl (by decide)
    by_cases h2 : sk 3 k = 2
    · rw [if_pos h2, if_pos h2]; exact bad
    · rw [if_neg h2, if_neg h2]
      by_cases h8 : (8 : Int32) ≤ nI u
      · rw [if_pos h8, if_pos h8, v1, pz_bnd]
        rcases v3 with ⟨g, g1, g2, g3, rfl⟩ | ⟨g1, rfl⟩
        · have g12 : ∀ o, gd (oz_in (nI g) 12) o = o := fun o => pz_gd g1 (by omega)
          have t12 : (nI g).toNatClampNeg = g := pz_tn (by omega)
          have hu8 : 8 ≤ u := (pz_le (a := 8) (b := u) (by omega) (by omega)).mp h8
          have hm := (R.own_none g1).mpr g2
          have hl : sm 7 g = -1 := by
            rcases R.hol g1 with ⟨a1, a2⟩ | ⟨i, p, q, a1, a2, a3, a4, a5, a6, a7, a8⟩
            · exact a1
            · rw [(R.2.2.1 g g1).1.1, g2] at a6; exact absurd a6.symm (pz_m1 (by omega))
          rw [F0_isFrame_in g1, pz_bnd, if_neg n10, if_neg (pz_m1 (by omega)), FX1_buy_j56, F1_goes0, pz_bnd, if_neg n10]
          simp only [g5, g12, t5, t12, pz_stp]
          have R1 := ((R0.thr 0).set_purse (Nat.le_refl n) hk (u := u - 8) (by omega)).own_to g1 (x := nI k) (Or.inr ⟨k, hk, rfl⟩) (by rw [se_r (by decide), se_r (by decide), se_r (by decide)]; exact hl) (by rw [se_r (by decide)]; exact hm.2)
          have e1 : sk 2 k - 8 = nI (u - 8) := by rw [u2]; exact pz_sub hu8
          have e2 : oz_se (oz_se sm 0 18 0) 0 18 0 9 k - 8 = nI (u - 8) := by rw [← ((R0.thr 0).2.1 k hk).1.2.1]; exact e1
          rw [e1, e2]
          exact Sim.ok rfl rfl R1 hn rfl
        · rw [F0_isFrame_m1, pz_bnd, if_pos rfl, if_pos rfl]; exact bad
      · rw [if_neg h8, if_neg h8, ite_self]; exact bad
  · rw [h1, h2, pz_bnd, pz_bnd, if_pos rfl, if_pos rfl, FX1_buy_j18, F1_goes1, pz_bnd, if_pos rfl]
    exact Sim.no rfl rfl (R.thr 1) hn (by decide) rfl (by decide)
theorem c_sell (R : Rel n c nl r t h sk sm) (hn : n + 4 ≤ 20 + 4 * j + 590 * t) (a : Int32) : Sim cv [(1, 1), (2, 2)] j (FX0_sell a sk) (FX1_sell a sm) := by
  unfold FX0_sell FX1_sell
  rcases frm a with ⟨k, hk, rfl⟩ | ⟨h1, h2⟩
  · have g12 : ∀ o, gd (oz_in (nI k) 12) o = o := fun o => pz_gd hk (by omega)
    have t12 : (nI k).toNatClampNeg = k := pz_tn (by omega)
    have R0 := R.thr 0
    have e5 := (R0.2.2.1 k hk).1.1
    have bad : ∀ y, Sim cv [(1, 1), (2, 2)] j (some (2, 0, sk)) (FX1_sell_j67 (nI k) y 2 (oz_se sm 0 18 0)) := fun y => by
      rw [FX1_sell_j67, F1_goes2, pz_bnd, if_pos rfl]
      exact Sim.no rfl rfl (R0.thr 2) (by omega) (by decide) rfl (by decide)
    rw [F0_isFrame_in hk, F1_isFrame_in hk, pz_bnd, pz_bnd, if_neg n10, if_neg n10, FX1_sell_j13, F1_goes0, pz_bnd, if_neg n10]
    simp only [g12, t12]
    rw [← e5, R0.f1_isEmpty hk, pz_bnd]
    rcases (R.2.2.1 k hk).2.1 with q | ⟨p, p1, p2⟩
    · rw [q, F0_isProcess_m1, pz_bnd, if_pos rfl, if_pos rfl]; exact bad _
    · have g5 : ∀ o, gd (oz_in (nI p) 5) o = o := fun o => pz_gd p1 (by omega)
      have t5 : (nI p).toNatClampNeg = p := pz_tn (by omega)
      rw [p2, F0_isProcess_in p1, pz_bnd, if_neg n10, if_neg (pz_m1 (by omega))]
      simp only [g5, t5]
      rcases R0.hol hk with ⟨a1, a2⟩ | ⟨i, p', q', a1, a2, a3, a4, a5, a6, a7, a8⟩
      · rw [if_pos a1, a2, p2, if_pos rfl]
        by_cases h7 : sk 7 k = -1
        · rw [if_pos h7, if_pos h7, if_neg n10]
          obtain ⟨⟨x1, x2, x3, x4⟩, -, u, u1, u2⟩ := R0.2.1 p p1
          rw [← x3]
          by_cases h2 : sk 3 p = 2
          · rw [if_pos h2, if_pos h2]; exact bad _
          · rw [if_neg h2, if_neg h2, FX1_sell_j67, F1_goes0, pz_bnd, if_neg n10]
            simp only [g5, g12, t5, t12, pz_stp]
            have R1 := ((R0.thr 0).own_to hk (x := -1) (Or.inl rfl) (by rw [se_r (by decide)]; exact a1) h7).set_purse (n2 := n + 4) (by omega) p1 (u := u + 4) (by omega)
            have e1 : oz_se (oz_se sk 5 k (-1)) 6 k (-1) 2 p + 4 = nI (u + 4) := by rw [se_r (by decide), se_r (by decide), u2]; exact nI_add u 4
            have e2 : oz_se (oz_se sm 0 18 0) 0 18 0 9 p + 4 = nI (u + 4) := by rw [← ((R0.thr 0).2.1 p p1).1.2.1, u2]; exact nI_add u 4
            rw [e1, e2]
            rw [se_comm _ (r := 3) (r2 := 9) _ _ _ _ (by decide)] at R1
            refine Sim.ok rfl rfl R1 hn ?_
            rw [se_s, se_r (by decide), se_s]
        · rw [if_neg h7, if_neg h7, if_pos rfl]; exact bad _
      · have n1 : ¬ sm 7 k = -1 := by
          have : sm 7 k = nI i := by rw [← a2, se_r (by decide)]
          rw [this]; exact pz_m1 (by have := R.1.1.2.2; omega)
        have n2 : ¬ oz_se sm 0 18 0 7 k = -1 := by rw [se_r (by decide)]; exact n1
        have n3 : ¬ sk 6 k = nI p := fun q => by
          rw [a7] at q
          rw [p2] at a6
          exact a5 (((pz_eq (by omega) (by omega)).mp a6).symm.trans ((pz_eq (by omega) (by omega)).mp q).symm)
        rw [if_neg n2, if_neg n3]; exact bad _
  · rw [h1, h2, pz_bnd, pz_bnd, if_pos rfl, if_pos rfl, FX1_sell_j13, F1_goes1, pz_bnd, if_pos rfl]
    exact Sim.no rfl rfl (R.thr 1) (by omega) (by decide) rfl (by decide)
theorem c_drop (R : Rel n c nl r t h sk sm) (hn : n ≤ 20 + 4 * j + 590 * t) (a : Int32) : Sim cv [(1, 1), (2, 2)] j (FX0_drop a sk) (FX1_drop a sm) := by
  unfold FX0_drop FX1_drop
  rcases frm a with ⟨k, hk, rfl⟩ | ⟨h1, h2⟩
  · have g12 : ∀ o, gd (oz_in (nI k) 12) o = o := fun o => pz_gd hk (by omega)
    have t12 : (nI k).toNatClampNeg = k := pz_tn (by omega)
    rw [F0_isFrame_in hk, F1_isFrame_in hk, pz_bnd, pz_bnd, if_neg n10, if_neg n10, R.f1_hasPage hk, pz_bnd, F0_dropPage_in hk, pz_bnd]
    simp only [g12, t12]
    by_cases h8 : sk 8 k = 0
    · rw [if_pos h8, if_pos h8, if_pos rfl, FX1_drop_j25, F1_goes2, pz_bnd, if_pos rfl]
      exact Sim.no rfl rfl (R.thr 2) hn (by decide) rfl (by decide)
    · rw [if_neg h8, if_neg h8, if_neg n10, FX1_drop_j25, F1_goes0, pz_bnd, if_neg n10]
      simp only [g12, t12, pz_stp]
      exact Sim.ok rfl rfl ((R.thr 0).drop_still hk (cm_there h8)) hn ((R.thr 0).2.2.1 k hk).1.2.1
  · rw [h1, h2, pz_bnd, pz_bnd, if_pos rfl, if_pos rfl, FX1_drop_j25, F1_goes1, pz_bnd, if_pos rfl]
    exact Sim.no rfl rfl (R.thr 1) hn (by decide) rfl (by decide)
theorem c_payBack (R : Rel n c nl r t h sk sm) (hn : n ≤ 20 + 4 * j + 590 * t) (a : Int32) : Sim cv [(1, 1), (2, 2)] j (FX0_payBack a sk) (FX1_payBack a sm) := by
  have hnl := R.1.1.2.2
  unfold FX0_payBack FX1_payBack
  rcases R.lon a with ⟨k, hk, rfl, h1, h2⟩ | ⟨h1, h2⟩
  · have hk6 : k < 60 := by omega
    have g60 : ∀ o, gd (oz_in (nI k) 60) o = o := fun o => pz_gd hk6 (by omega)
    have t60 : (nI k).toNatClampNeg = k := pz_tn (by omega)
    have R0 := R.thr 0
    rw [h1, h2, pz_bnd, pz_bnd, if_neg n10, if_neg n10, FX1_payBack_j14, F1_goes0, pz_bnd, if_neg n10, R0.f1_doesLast hk, pz_bnd]
    simp only [g60, t60]
    have bad : Sim cv [(1, 1), (2, 2)] j (some (2, 0, sk)) (FX1_payBack_j47 (nI k) 2 (oz_se sm 0 18 0)) := by
      rw [FX1_payBack_j47, F1_goes2, pz_bnd, if_pos rfl]
      exact Sim.no rfl rfl (R0.thr 2) hn (by decide) rfl (by decide)
    by_cases h13 : sk 13 k = 0
    · rw [if_pos h13, if_pos h13]; exact bad
    · obtain ⟨g, p, q, a1, a2, a3, a4, a5, a6, a7, a8⟩ := R0.2.2.2.1 k hk
      obtain ⟨⟨b1, b2, b3, b4⟩, -⟩ := (R0.thr 0).2.2.2.2.1 k hk6
      have hs7 : oz_se (oz_se sm 0 18 0) 0 18 0 7 g = nI k := by
        rw [se_r (by decide)]
        exact a8.elim (fun z => z.2) (fun z => absurd z.1 h13)
      rw [if_neg h13, if_neg h13, ← (R0.2.2.2.2.1 k hk6).1.1, a5, F0_isComing_in a1, R0.f1_isComing a1, pz_bnd, pz_bnd]
      by_cases h0 : cm sk g = 0
      · obtain ⟨d1, d2, d3⟩ := (R0.thr 0).s_end hk a1 a5 hs7 h0
        rw [if_pos h0, if_pos h0, d1, pz_bnd, FX1_payBack_j47, F1_goes0, pz_bnd, if_neg n10, d2, pz_bnd]
        simp only [g60, t60]
        refine Sim.ok rfl rfl d3 hn ?_
        unfold eK eM
        rw [se_r (by decide), se_r (by decide), dp_r (Or.inl (by decide)) (Or.inl (by decide)) (Or.inl (by decide)), b2]
        simp (disch := decide) only [se_r]
      · rw [if_neg h0, if_neg h0]; exact bad
  · rw [h1, h2, pz_bnd, pz_bnd, if_pos rfl, if_pos rfl, FX1_payBack_j14, F1_goes1, pz_bnd, if_pos rfl]
    exact Sim.no rfl rfl (R.thr 1) hn (by decide) rfl (by decide)
end PK
