/-! A TICK: the disk, and all of it -/
section PO
variable {m n nl r t h j e : Nat} {c v b : Int32} {sk sm sk2 sm2 : ST} {cv : Int32 → Int64} {hs : List (Nat × Int32)} {o1 o2 : Option Res}
theorem Rel.hold_any (R : Rel n c nl r t h sk sm) {f : Nat} (hf : f < 12) {s2 : ST} (q7 : s2 7 f = sm 7 f) (q3 : s2 3 f = sm 3 f) (q15 : ∀ i, s2 15 i = sm 15 i) : FX1_holderOf (nI f) s2 = some (0, sk 6 f, s2) := by
  obtain ⟨⟨⟨-, -, hnl⟩, -⟩, -, h3, -, h5, -⟩ := R
  obtain ⟨⟨e1, -, -⟩, -, -, -, -, hl, -⟩ := h3 f hf
  unfold FX1_holderOf
  rw [pz_gd hf (by omega), pz_tn (by omega), pz_gd hf (by omega), q7, q3]
  rcases hl with ⟨a1, a2⟩ | ⟨j, a1, a2, a3, a4, a5⟩
  · rw [if_pos a1, a2, e1]
  · rw [a2, if_neg (pz_m1 (by omega)), pz_gd hf (by omega), pz_gd (n := 60) (by omega) (by omega), pz_tn (by omega), q15, a4, (h5 j (by omega)).1.2.2.1]
/-- the head is where the chosen page is, or isn't -/
theorem Rel.fin (R : Rel n c nl r t h sk sm) {f p a : Nat} (hf : f < 12) (hp : p < 5) (h18 : sk 0 18 = nI f) (h6 : sk 6 f = nI p) (h7 : sk 7 f ≠ -1) (ha : a < 40) : ∃ sk2 sm2, FX0_moveDisk_j75 (nI a) sk = some (0, 0, sk2) ∧ (∀ st y0 y1, oz_se st 0 16 (y1 + y0) = sm → FX1_turns_j71 (nI a) y0 y1 st = some (0, 0, sm2)) ∧ Rel n c nl r t h sk2 sm2 := by
  have g12 : ∀ o, gd (oz_in (nI f) 12) o = o := fun o => pz_gd hf (by omega)
  have t12 : (nI f).toNatClampNeg = f := pz_tn (by omega)
  have g5 : ∀ o, gd (oz_in (nI p) 5) o = o := fun o => pz_gd hp (by omega)
  have t5 : (nI p).toNatClampNeg = p := pz_tn (by omega)
  have hh := R.1.2.2.2.1
  have h17 : sm 0 17 = nI f := by rw [← R.2.2.2.2.2.2.1, h18]
  by_cases q : h = a
  · subst q
    have R1 := (((R.set_chosen (v := -1) (Or.inl rfl)).arrive hf se_s (by rw [se_r (by decide)]; exact h7)).settouch hf).set_state hp 0
    rw [se_comm sm (r := 0) (r2 := 5) _ _ _ _ (by decide), se_comm _ (r := 0) (r2 := 6) _ _ _ _ (by decide), se_comm _ (r := 0) (r2 := 10) _ _ _ _ (by decide)] at R1
    refine ⟨_, _, ?_, fun st y0 y1 e => ?_, R1⟩
    · rw [FX0_moveDisk_j75, hh.1, if_pos rfl, h18, FX0_finishRequest, pz_stp]
      simp only [g12, t12, pz_stp]
      have e6 : ∀ x y, oz_se (oz_se (oz_se sk 0 18 (-1)) 8 f x) 9 f y 6 f = nI p := fun x y => by rw [← h6]; simp (disch := decide) only [se_r]
      have e16 : oz_se (oz_se sk 0 18 (-1)) 8 f 1 0 16 = nI t := by rw [se_r (by decide), se_i (by decide)]; exact R.1.2.2.1.1
      rw [e16, e6, F0_isProcess_in hp, pz_bnd, if_neg n10]
      simp only [g5, t5, pz_bnd]
    · rw [FX1_turns_j71, e, pz_stp, hh.2.1, if_pos rfl, h17]
      simp only [g12, t12, pz_stp]
      have e17 : ∀ x, oz_se sm 5 f x 0 17 = nI f := fun x => by rw [se_r (by decide), h17]
      have e0 : ∀ x, oz_se sm 5 f x 0 0 = nI t := fun x => by rw [se_r (by decide)]; exact R.1.2.2.1.2.1
      simp only [e17, e0, g12, t12, pz_stp]
      have e18 : ∀ x y, oz_se (oz_se sm 5 f x) 6 f y 0 17 = nI f := fun x y => by rw [se_r (by decide), e17]
      rw [e18, R.hold_any hf (by simp (disch := decide) only [se_r]) (by simp (disch := decide) only [se_r]) (fun i => by simp (disch := decide) only [se_r]), pz_bnd, h6, g5, t5]
  · refine ⟨sk, sm, ?_, fun st y0 y1 e => ?_, R⟩
    · rw [FX0_moveDisk_j75, hh.1, if_neg (fun z => q ((pz_eq (by omega) (by omega)).mp z))]
    · rw [FX1_turns_j71, e, pz_stp, hh.2.1, if_neg (fun z => q ((pz_eq (by omega) (by omega)).mp z))]
theorem Rel.disk16 (R : Rel n c nl r t h sk sm) : ∃ sk2 sm2 h2, FX0_moveDisk_j16 sk = some (0, 0, sk2) ∧ (∀ st y0, oz_se st 0 17 y0 = sm → FX1_turns_j20 y0 st = some (0, 0, sm2)) ∧ Rel n c nl r t h2 sk2 sm2 := by
  have hh := R.1.2.2.2.1
  have e18 := R.2.2.2.2.2.2.1
  rcases R.2.2.2.2.2.2.2 with q | ⟨f, hf, h18, h7, h8⟩
  · refine ⟨sk, sm, h, ?_, fun st y0 e => ?_, R⟩
    · rw [FX0_moveDisk_j16, q, F0_isFrame_m1, pz_bnd, if_pos rfl]
    · rw [FX1_turns_j20, e, pz_stp, ← e18, if_pos q]
  · have hc : ¬ cm sk f = 0 := by rw [cm_of h7 h8]; exact n10
    obtain ⟨-, -, p, v, p1, p2, p3, p4, p5⟩ := R.coming hf hc
    have h17 : sm 0 17 = nI f := by rw [← e18, h18]
    have hk9 : ∀ x, oz_se sk 0 17 x 0 18 = nI f := fun x => by rw [se_i (by decide), h18]
    have h6' : ∀ x, oz_se sk 0 17 x 6 f = nI p := fun x => by rw [se_r (by decide), p3]
    have h7' : ∀ x, oz_se sk 0 17 x 7 f ≠ -1 := fun x => by rw [se_r (by decide)]; exact h7
    have hK : FX0_moveDisk_j16 sk = (if nI (8 * p + v) ≤ nI h then (if nI h ≤ nI (8 * p + v) then (FX0_moveDisk_j75 (nI (8 * p + v)) sk) else FX0_moveDisk_j75 (nI (8 * p + v)) (oz_se sk 0 17 (nI h - 1))) else FX0_moveDisk_j75 (nI (8 * p + v)) (oz_se sk 0 17 (nI h + 1))) := by
      rw [FX0_moveDisk_j16, h18, F0_isFrame_in hf, pz_bnd, if_neg n10, h18, F0_trackOf_in hf, pz_bnd, p5, hh.1, pz_stp, pz_stp]
    have hM : ∀ st y0, oz_se st 0 17 y0 = sm → FX1_turns_j20 y0 st = (if nI (8 * p + v) ≤ nI h then (if nI h ≤ nI (8 * p + v) then (FX1_turns_j71 (nI (8 * p + v)) 0 (nI h) sm) else (FX1_turns_j71 (nI (8 * p + v)) (-1) (nI h) sm)) else (FX1_turns_j71 (nI (8 * p + v)) 1 (nI h) sm)) := fun st y0 e => by
      rw [FX1_turns_j20, e, pz_stp, h17, if_neg (pz_m1 (by omega)), R.f1_trackOf hf, pz_bnd, p5, hh.2.1]
    rw [hK]
    by_cases q1 : 8 * p + v ≤ h
    · have l1 : nI (8 * p + v) ≤ nI h := (pz_le (by omega) (by omega)).mpr q1
      by_cases q2 : h ≤ 8 * p + v
      · have l2 : nI h ≤ nI (8 * p + v) := (pz_le (by omega) (by omega)).mpr q2
        obtain ⟨sk2, sm2, a1, a2, a3⟩ := R.fin hf p1 h18 p3 h7 (a := 8 * p + v) (by omega)
        refine ⟨sk2, sm2, h, by rw [if_pos l1, if_pos l2, a1], fun st y0 e => ?_, a3⟩
        rw [hM st y0 e, if_pos l1, if_pos l2]
        refine a2 _ _ _ ?_
        rw [pz_0, ← hh.2.1]; exact se_self sm 0 16
      · have l2 : ¬ nI h ≤ nI (8 * p + v) := fun z => q2 ((pz_le (by omega) (by omega)).mp z)
        obtain ⟨g, rfl⟩ : ∃ g, h = g + 1 := ⟨h - 1, by omega⟩
        obtain ⟨sk2, sm2, a1, a2, a3⟩ := (R.set_head (v := g) (by omega)).fin hf p1 (hk9 _) (h6' _) (h7' _) (a := 8 * p + v) (by omega)
        refine ⟨sk2, sm2, g, by rw [if_pos l1, if_neg l2, nI_pred, a1], fun st y0 e => ?_, a3⟩
        rw [hM st y0 e, if_pos l1, if_neg l2]
        exact a2 _ _ _ (by rw [pz_pr])
    · have l1 : ¬ nI (8 * p + v) ≤ nI h := fun z => q1 ((pz_le (by omega) (by omega)).mp z)
      obtain ⟨sk2, sm2, a1, a2, a3⟩ := (R.set_head (v := h + 1) (by omega)).fin hf p1 (hk9 _) (h6' _) (h7' _) (a := 8 * p + v) (by omega)
      refine ⟨sk2, sm2, h + 1, by rw [if_neg l1, pz_1, a1], fun st y0 e => ?_, a3⟩
      rw [hM st y0 e, if_neg l1]
      exact a2 _ _ _ (by rw [pz_1])
theorem Rel.disk (R : Rel n c nl r t h sk sm) : ∃ sk2 sm2 h2, FX0_moveDisk sk = some (0, 0, sk2) ∧ FX1_turns sm = some (0, 0, sm2) ∧ Rel n c nl r t h2 sk2 sm2 := by
  unfold FX0_moveDisk FX1_turns
  rw [← R.2.2.2.2.2.2.1]
  by_cases q : sk 0 18 = -1
  · obtain ⟨v, v1, v2, v3⟩ := R.s_nearest
    rw [if_pos q, if_pos q, v1, v2, pz_bnd, pz_bnd, pz_stp]
    have hv : v = -1 ∨ ∃ f, f < 12 ∧ v = nI f ∧ sk 7 f ≠ -1 ∧ sk 8 f = 0 := v3.elim Or.inl (fun ⟨g, g1, g2, g3⟩ => Or.inr ⟨g, g1, g2, (R.coming g1 g3).1, (R.coming g1 g3).2.1⟩)
    obtain ⟨sk2, sm2, h2, a1, a2, a3⟩ := (R.set_chosen hv).disk16
    exact ⟨sk2, sm2, h2, a1, a2 _ _ rfl, a3⟩
  · rw [if_neg q, if_neg q]
    obtain ⟨sk2, sm2, h2, a1, a2, a3⟩ := R.disk16
    exact ⟨sk2, sm2, h2, a1, a2 _ _ (by rw [R.2.2.2.2.2.2.1]; exact se_self sm 0 17), a3⟩
theorem Rel.one (R : Rel n c nl r t h sk sm) (ht : t + 1 ≤ 50000) (hB : n + 590 ≤ 1000000000) : ∃ sk2 sm2 h2, FX0_passTick sk = some (0, 0, sk2) ∧ (∀ k42 x1 x2, FX1_advance_w49 k42 300 x1 x2 0 sm = k42 x1 (x2 + 1) sm2) ∧ Rel (n + 590) c nl r (t + 1) h2 sk2 sm2 := by
  have hnl := R.1.1.2.2
  obtain ⟨s1, u1, a1, a2, a3⟩ := Rel.wages 5 0 300 300 n sk sm (by omega) (by omega) (by omega) R
  obtain ⟨s2, u2, b1, b2, b3⟩ := Rel.pays nl 0 300 300 _ s1 u1 (by omega) (by omega) (by omega) a3 (by omega)
  obtain ⟨s3, u3, c1, c2, c3⟩ := Rel.alms 5 0 300 300 _ s2 u2 (by omega) (by omega) (by omega) b3 (by omega)
  obtain ⟨s4, u4, h2, d1, d2, d3⟩ := c3.disk
  have a1' : FX0_payWages_w2 300 0 sk = some (0, 0, s1) := a1
  have a2' : ∀ k42 x1 x2, FX1_advance_w49 k42 300 x1 x2 0 sm = (bnd (FX1_pays u1) (fun _ s5 => bnd (FX1_gives s5) (fun _ s6 => bnd (FX1_turns s6) (fun _ s7 => stp (oz_se s7 0 0 ((s7 0 0) + 1)) (fun s8 => (k42 x1 (x2 + 1) s8)))))) := a2
  have b1' : FX0_chargeLoans_w2 300 0 s1 = some (0, 0, s2) := b1
  have b2' : FX1_pays_w2 300 0 u1 = some (0, 0, u2) := b2
  have c1' : FX0_giveAlms_w2 300 0 s2 = some (0, 0, s3) := c1
  have c2' : FX1_gives_w2 300 0 u2 = some (0, 0, u3) := c2
  refine ⟨_, _, h2, ?_, fun k42 x1 x2 => ?_, (d3.set_tick ht).mono (by omega)⟩
  · unfold FX0_passTick FX0_payWages FX0_chargeLoans FX0_giveAlms
    rw [a1', pz_bnd, b1', pz_bnd, c1', pz_bnd, d1, pz_bnd, pz_stp, d3.1.2.2.1.1, pz_1]
  · rw [a2']
    unfold FX1_pays FX1_gives
    rw [b2', pz_bnd, c2', pz_bnd, d2, pz_bnd, pz_stp, d3.1.2.2.1.2.1, pz_1]
set_option maxRecDepth 100000 in
theorem Rel.ticks (A : Nat) (hA : A ≤ 200) : ∀ (i k fu fu2 n t h : Nat) (sk sm : ST), i + k = A → i < fu → i < fu2 → Rel n c nl r t h sk sm → t + i ≤ 50000 → n + 590 * i ≤ 1000000000 → ∃ sk2 sm2 h2, FX0_advance_w45 fu (nI A) (nI k) sk = some (0, nI (t + i), sk2) ∧ FX1_advance_w42 fu2 (nI A) (nI k) sm = some (0, nI (t + i), sm2) ∧ Rel (n + 590 * i) c nl r (t + i) h2 sk2 sm2 := by
  intro i
  induction i with
  | zero =>
    intro k fu fu2 n t h sk sm hk hf hf2 R ht hB
    obtain ⟨f, rfl⟩ : ∃ f, fu = f + 1 := ⟨fu - 1, by omega⟩
    obtain ⟨f2, rfl⟩ : ∃ f, fu2 = f + 1 := ⟨fu2 - 1, by omega⟩
    obtain rfl : k = A := by omega
    have el : nI k ≤ nI k := (pz_le (by omega) (by omega)).mpr (Nat.le_refl k)
    exact ⟨sk, sm, h, by rw [FX0_advance_w45, if_pos el, R.1.2.2.1.1]; rfl, by rw [FX1_advance_w42, if_pos el, R.1.2.2.1.2.1]; rfl, R⟩
  | succ i ih =>
    intro k fu fu2 n t h sk sm hk hf hf2 R ht hB
    obtain ⟨f, rfl⟩ : ∃ f, fu = f + 1 := ⟨fu - 1, by omega⟩
    obtain ⟨f2, rfl⟩ : ∃ f, fu2 = f + 1 := ⟨fu2 - 1, by omega⟩
    have el : ¬ nI A ≤ nI k := fun z => absurd ((pz_le (by omega) (by omega)).mp z) (by omega)
    have hq1 : n + 590 ≤ n + 590 * (i + 1) := by omega
    have hq2 : n + 590 ≤ 1000000000 := Nat.le_trans hq1 hB
    obtain ⟨s1, u1, h1, a1, a2, a3⟩ := R.one (by omega) hq2
    obtain ⟨sk2, sm2, h2, b1, b2, b3⟩ := ih (k + 1) f f2 _ _ _ s1 u1 (by omega) (by omega) (by omega) a3 (by omega) (by omega)
    rw [show t + 1 + i = t + (i + 1) by omega] at b1 b2 b3
    refine ⟨sk2, sm2, h2, ?_, ?_, b3.mono (by omega)⟩
    · rw [FX0_advance_w45, if_neg el, a1, pz_bnd, pz_1, b1]
    · rw [FX1_advance_w42, if_neg el, a2, pz_1, b2]
theorem c_advance (R : Rel n c nl r t h sk sm) (hn : n ≤ 20 + 4 * j + 590 * t) (hj : j ≤ 1000) (a : Int32) : Sim cv [(3, 1), (2, 2)] j (FX0_advance a sk) (FX1_advance a sm) := by
  have ht := R.1.2.2.1.2.2
  unfold FX0_advance FX1_advance
  rw [F1_isIn_val, pz_bnd]
  by_cases h0 : a < 1
  · rw [if_pos h0, if_pos h0, if_pos rfl, FX1_advance_j32, F1_goes1, pz_bnd, if_pos rfl]
    exact Sim.no rfl rfl (R.thr 1) hn (by decide) rfl (by decide)
  · rw [if_neg h0, if_neg h0]
    by_cases h9 : a ≤ 200
    · have h00 : ¬ a < 0 := fun z => h0 (Int32.lt_trans z (by decide))
      obtain ⟨A, hA, rfl⟩ := nI_of2 (M := 200) (n := 200) rfl h00 h9
      rw [if_pos h9, if_neg (Int32.not_lt.mpr h9), if_neg n10, R.1.2.2.1.1, R.1.2.2.1.2.1]
      have e1 : (50000 : Int32) - nI A = nI (50000 - A) := pz_sub (a := 50000) (b := A) (by omega)
      rw [e1, nI_add]
      by_cases h5 : t + A ≤ 50000
      · have l1 : nI t ≤ nI (50000 - A) := (pz_le (by omega) (by omega)).mpr (by omega)
        have l2 : nI (t + A) ≤ 50000 := (pz_le (a := t + A) (b := 50000) (by omega) (by omega)).mpr h5
        rw [if_pos l1, if_pos l2, FX1_advance_j32, F1_goes0, pz_bnd, if_neg n10]
        obtain ⟨sk2, sm2, h2, b1, b2, b3⟩ := Rel.ticks A hA A 0 300 300 n t h sk (oz_se sm 0 18 0) (by omega) (by omega) (by omega) (R.thr 0) h5 (by omega)
        have b1' : FX0_advance_w45 300 (nI A) 0 sk = some (0, nI (t + A), sk2) := b1
        have b2' : FX1_advance_w42 300 (nI A) 0 (oz_se sm 0 18 0) = some (0, nI (t + A), sm2) := b2
        exact Sim.ok b1' b2' b3 (by omega) rfl
      · have l1 : ¬ nI t ≤ nI (50000 - A) := fun z => absurd ((pz_le (by omega) (by omega)).mp z) (by omega)
        have l2 : ¬ nI (t + A) ≤ 50000 := fun z => absurd ((pz_le (a := t + A) (b := 50000) (by omega) (by omega)).mp z) h5
        rw [if_neg l1, if_neg l2, FX1_advance_j32, F1_goes2, pz_bnd, if_pos rfl]
        exact Sim.no rfl rfl (R.thr 2) hn (by decide) rfl (by decide)
    · rw [if_neg h9, if_pos (Int32.not_le.mp h9), if_pos rfl, FX1_advance_j32, F1_goes1, pz_bnd, if_pos rfl]
      exact Sim.no rfl rfl (R.thr 1) hn (by decide) rfl (by decide)
end PO
