section PW
variable {n nl r t h : Nat} {c : Int32} {sk sm : ST}
theorem pz_track (p v : Nat) : 8 * nI p + nI v = nI (8 * p + v) := by
  show nI 8 * nI p + nI v = nI (8 * p + v)
  rw [pk_mul, nI_add]
/-- a frame whose page comes -/
theorem Rel.coming (R : Rel n c nl r t h sk sm) {f : Nat} (hf : f < 12) (h0 : ¬ cm sk f = 0) : sk 7 f ≠ -1 ∧ sk 8 f = 0 ∧ ∃ p v, p < 5 ∧ v < 8 ∧ sk 6 f = nI p ∧ sk 7 f = nI v ∧ 8 * sk 6 f + sk 7 f = nI (8 * p + v) := by
  have h1 : sk 7 f ≠ -1 := fun q => h0 (by unfold cm; rw [if_pos q])
  have h2 : sk 8 f = 0 := by
    by_cases q : sk 8 f = 0
    · exact q
    · exact absurd (by unfold cm; rw [if_neg h1, if_neg q]) h0
  obtain ⟨-, o1, o2, -, -, -, o3⟩ := R.2.2.1 f hf
  have hv : ∃ v, v < 8 ∧ sk 7 f = nI v := o2.elim (fun q => absurd q h1) id
  obtain ⟨v, v1, v2⟩ := hv
  have ho : ∃ p, p < 5 ∧ sk 5 f = nI p := o1.elim (fun q => absurd (o3 q) h1) id
  obtain ⟨p, p1, p2⟩ := ho
  refine ⟨h1, h2, ?_⟩
  rcases R.hol hf with ⟨a1, a2⟩ | ⟨i, p', q, a1, a2, a3, a4, a5, a6, a7, a8⟩
  · exact ⟨p, v, p1, v1, by rw [a2, p2], v2, by rw [a2, p2, v2, pz_track]⟩
  · exact ⟨q, v, a4, v1, a7, v2, by rw [a7, v2, pz_track]⟩
theorem cm_of {s : ST} {f : Nat} (h1 : s 7 f ≠ -1) (h2 : s 8 f = 0) : cm s f = 1 := by unfold cm; rw [if_neg h1, if_pos h2]
/-- how far the head is from a track -/
def dst (h a : Nat) : Nat := if h ≤ a then a - h else h - a
theorem Rel.dist0 (R : Rel n c nl r t h sk sm) {a : Nat} (ha : a < 40) : (if 0 ≤ nI a - sk 0 17 then nI a - sk 0 17 else 0 - (nI a - sk 0 17)) = nI (dst h a) := by
  obtain ⟨⟨-, -, -, ⟨e1, -, hh⟩, -⟩, -⟩ := R
  rw [e1]
  have e : (nI a - nI h).toInt = (a : Int) - h := pk_sub_toInt (by omega) (by omega)
  unfold dst
  by_cases q : h ≤ a
  · have h1 : (0 : Int32) ≤ nI a - nI h := by
      rw [Int32.le_iff_toInt_le, e]
      have : (0 : Int32).toInt = 0 := rfl
      omega
    rw [if_pos h1, if_pos q, pk_sub q]
  · have h1 : ¬ (0 : Int32) ≤ nI a - nI h := by
      rw [Int32.le_iff_toInt_le, e]
      have : (0 : Int32).toInt = 0 := rfl
      omega
    rw [if_neg h1, if_neg q]
    have e9 : (0 : Int32) - (nI a - nI h) = nI h - nI a := by
      rw [Int32.zero_sub, Int32.neg_sub]
    rw [e9, pk_sub (by omega)]
theorem Rel.f1_distance (R : Rel n c nl r t h sk sm) {f a : Nat} (hf : f < 12) (ha : a < 40) (ht : 8 * sk 6 f + sk 7 f = nI a) : FX1_distance (nI f) sm = some (0, nI (dst h a), sm) := by
  obtain ⟨⟨-, -, -, ⟨-, e1, hh⟩, -⟩, -⟩ := id R
  unfold FX1_distance dst
  rw [R.f1_trackOf hf, pz_bnd, ht, e1]
  by_cases q : h ≤ a
  · rw [if_pos ((pz_le (by omega) (by omega)).mpr q), if_pos q, pk_sub q]
  · rw [if_neg (fun z => q ((pz_le (by omega) (by omega)).mp z)), if_neg q, pk_sub (by omega)]
theorem dst_lt {h a : Nat} (h1 : h < 40) (h2 : a < 40) : dst h a < 40 := by unfold dst; split <;> omega
theorem Rel.s_nearest (R : Rel n c nl r t h sk sm) : ∃ v, FX0_nearestRequest sk = some (0, v, sk) ∧ FX1_nearest sm = some (0, v, sm) ∧ (v = -1 ∨ ∃ g, g < 12 ∧ v = nI g ∧ ¬ cm sk g = 0) := by
  have hh := R.1.2.2.2.1.2.2
  have loop : ∀ (j k fu : Nat) (v w d : Int32), j + k = 12 → j < fu → ((v = -1 ∧ d = 40) ∨ ∃ g a, g < 12 ∧ a < 40 ∧ v = nI g ∧ ¬ cm sk g = 0 ∧ 8 * sk 6 g + sk 7 g = nI a ∧ w = nI a ∧ d = nI (dst h a)) → ∃ y, FX0_nearestRequest_w10 fu v w d (nI k) sk = some (0, y, sk) ∧ FX1_nearest_w4 fu v (nI k) sm = some (0, y, sm) ∧ (y = -1 ∨ ∃ g, g < 12 ∧ y = nI g ∧ ¬ cm sk g = 0) := by
    intro j
    induction j with
    | zero =>
      intro k fu v w d hk hf hi
      obtain ⟨f, rfl⟩ : ∃ f, fu = f + 1 := ⟨fu - 1, by omega⟩
      obtain rfl : k = 12 := by omega
      exact ⟨v, by rw [FX0_nearestRequest_w10, if_pos (by decide)], by rw [FX1_nearest_w4, if_pos (by decide)], hi.elim (fun q => Or.inl q.1) (fun ⟨g, a, a1, _, a2, a3, _⟩ => Or.inr ⟨g, a1, a2, a3⟩)⟩
    | succ j ih =>
      intro k fu v w d hk hf hi
      obtain ⟨f, rfl⟩ : ∃ f, fu = f + 1 := ⟨fu - 1, by omega⟩
      have hk12 : k < 12 := by omega
      have n12 : ¬ (12 : Int32) ≤ nI k := by rw [pz_le12 (by omega)]; omega
      have one : ¬ (1 : Int32) = 0 := by decide
      rw [FX0_nearestRequest_w10, FX1_nearest_w4, if_neg n12, if_neg n12, F0_isComing_in hk12, pz_bnd, R.f1_isComing hk12, pz_bnd]
      by_cases h0 : cm sk k = 0
      · rw [if_pos h0, if_pos h0, h0, FX1_nearest_j42, FX1_nearest_j43, if_pos rfl, FX1_nearest_j84, FX1_nearest_j85, if_pos rfl, if_pos rfl, pz_1]
        exact ih (k + 1) f v w d (by omega) (by omega) hi
      · obtain ⟨c1, c2, p, v0, p1, v1, c3, c4, c5⟩ := R.coming hk12 h0
        have ha : 8 * p + v0 < 40 := by omega
        rw [if_neg h0, if_neg h0, F0_trackOf_in hk12, pz_bnd, c5, R.dist0 ha]
        have skip : ∀ z, FX1_nearest_j84 (FX1_nearest_w4 f) z (nI k) 0 sm = FX1_nearest_w4 f z (nI (k + 1)) sm := fun z => by rw [FX1_nearest_j84, FX1_nearest_j85, if_pos rfl, if_pos rfl, pz_1]
        have take1 : ∀ z, FX1_nearest_j84 (FX1_nearest_w4 f) z (nI k) 1 sm = FX1_nearest_w4 f (nI k) (nI (k + 1)) sm := fun z => by rw [FX1_nearest_j84, FX1_nearest_j85, if_neg one, pz_1]
        have new := ih (k + 1) f (nI k) (nI (8 * p + v0)) (nI (dst h (8 * p + v0))) (by omega) (by omega) (Or.inr ⟨k, 8 * p + v0, hk12, ha, rfl, h0, c5, rfl, rfl⟩)
        rcases hi with ⟨q1, q2⟩ | ⟨g, a, a1, a2, a3, a4, a5, a6, a7⟩
        · have hlt : nI (dst h (8 * p + v0)) < d := by
            rw [q2]
            exact (pz_lt (a := dst h (8 * p + v0)) (b := 40) (by have := dst_lt hh ha; omega) (by omega)).mpr (dst_lt hh ha)
          rw [if_pos hlt, FX0_nearestRequest_j64, pz_1, if_pos q1, FX1_nearest_j43, if_neg h0, if_pos q1, take1]
          exact new
        · have d1 := R.f1_distance hk12 ha c5
          have d2 := R.f1_distance a1 a2 a5
          have l1 := dst_lt hh ha
          have l2 := dst_lt hh a2
          have vn : ¬ v = -1 := by rw [a3]; exact pz_m1 (by omega)
          rw [a7, a6, if_neg vn, a3, d1, pz_bnd, d2, pz_bnd]
          by_cases h1 : dst h (8 * p + v0) < dst h a
          · rw [if_pos ((pz_lt (by omega) (by omega)).mpr h1), FX0_nearestRequest_j64, pz_1, if_neg (fun z => absurd ((pz_le (by omega) (by omega)).mp z) (by omega)), FX1_nearest_j43, if_neg h0, if_neg (pz_m1 (by omega)), d1, pz_bnd, d2, pz_bnd, if_neg (fun z => absurd ((pz_eq (by omega) (by omega)).mp z) (by omega)), take1]
            exact new
          · have e1 : ¬ nI (dst h (8 * p + v0)) < nI (dst h a) := fun z => h1 ((pz_lt (by omega) (by omega)).mp z)
            have e2 : nI (dst h a) ≤ nI (dst h (8 * p + v0)) := (pz_le (by omega) (by omega)).mpr (by omega)
            have old := ih (k + 1) f (nI g) (nI a) (nI (dst h a)) (by omega) (by omega) (Or.inr ⟨g, a, a1, a2, rfl, a4, a5, rfl, rfl⟩)
            rw [if_neg e1, if_pos e2, FX1_nearest_j42, FX1_nearest_j43, if_neg h0, if_neg (pz_m1 (by omega)), d1, pz_bnd, d2, pz_bnd]
            by_cases h2 : dst h (8 * p + v0) = dst h a
            · have e3 : nI (dst h (8 * p + v0)) = nI (dst h a) := by rw [h2]
              rw [if_pos e3, if_pos e3, R.f1_trackOf hk12, pz_bnd, R.f1_trackOf a1, pz_bnd, c5, a5]
              by_cases h3 : a ≤ 8 * p + v0
              · have e4 : nI a ≤ nI (8 * p + v0) := (pz_le (by omega) (by omega)).mpr h3
                rw [if_pos e4, if_pos e4, skip, pz_1]
                exact old
              · have e4 : ¬ nI a ≤ nI (8 * p + v0) := fun z => h3 ((pz_le (by omega) (by omega)).mp z)
                rw [if_neg e4, if_neg e4, FX0_nearestRequest_j64, pz_1, FX1_nearest_j85, if_pos rfl, if_neg one, pz_1]
                exact new
            · have e3 : ¬ nI (dst h (8 * p + v0)) = nI (dst h a) := fun z => h2 ((pz_eq (by omega) (by omega)).mp z)
              rw [if_neg e3, if_neg e3, skip, pz_1]
              exact old
  exact loop 12 0 300 (-1) (-1) 40 (by omega) (by omega) (Or.inl ⟨rfl, rfl⟩)
/-- the frame that has a page of a process -/
theorem Rel.s_with (R : Rel n c nl r t h sk sm) (x : Int32) {y : Nat} (hy : y < 8) : ∃ v, FX0_frameWithPage x (nI y) sk = some (0, v, sk) ∧ FX1_frameWith x (nI y) sm = some (0, v, sm) ∧ Fst (fun i => sk 6 i = x ∧ sk 7 i = nI y) 12 v := by
  have uq : ∀ i j, i < 12 → j < 12 → (sk 6 i = x ∧ sk 7 i = nI y) → (sk 6 j = x ∧ sk 7 j = nI y) → i = j := fun i j hi hj a b => R.2.2.2.2.2.1 i j hi hj (by rw [a.1, b.1]) (by rw [a.2, b.2]) (by rw [a.2]; exact pz_m1 (by omega))
  have l0 : ∀ (j k fu : Nat), j + k = 12 → j < fu → (∀ i, i < k → ¬ (sk 6 i = x ∧ sk 7 i = nI y)) → ∃ v, FX0_frameWithPage_w2 fu x (nI y) (nI k) sk = some (0, v, sk) ∧ Fst (fun i => sk 6 i = x ∧ sk 7 i = nI y) 12 v := by
    intro j
    induction j with
    | zero =>
      intro k fu hk hf hn
      obtain ⟨f, rfl⟩ : ∃ f, fu = f + 1 := ⟨fu - 1, by omega⟩
      obtain rfl : k = 12 := by omega
      exact ⟨-1, by rw [FX0_frameWithPage_w2, if_pos (by decide)], Or.inr ⟨hn, rfl⟩⟩
    | succ j ih =>
      intro k fu hk hf hn
      obtain ⟨f, rfl⟩ : ∃ f, fu = f + 1 := ⟨fu - 1, by omega⟩
      have n12 : ¬ (12 : Int32) ≤ nI k := by rw [pz_le12 (by omega)]; omega
      have g12 : ∀ o, gd (oz_in (nI k) 12) o = o := fun o => pz_gd (by omega) (by omega)
      have next : ¬ (sk 6 k = x ∧ sk 7 k = nI y) → ∃ v, FX0_frameWithPage_w2 f x (nI y) (nI (k + 1)) sk = some (0, v, sk) ∧ Fst (fun i => sk 6 i = x ∧ sk 7 i = nI y) 12 v := fun h0 => ih (k + 1) f (by omega) (by omega) (fun i hi => by
        rcases Nat.lt_or_ge i k with q | q
        · exact hn i q
        · rw [show i = k by omega]; exact h0)
      rw [FX0_frameWithPage_w2, if_neg n12, g12, pz_tn (by omega), g12, pz_1]
      by_cases h1 : sk 6 k = x
      · rw [if_pos h1]
        by_cases h2 : sk 7 k = nI y
        · rw [if_pos h2]
          exact ⟨nI k, rfl, Or.inl ⟨k, by omega, ⟨h1, h2⟩, hn, rfl⟩⟩
        · rw [if_neg h2]
          exact next (fun q => h2 q.2)
      · rw [if_neg h1]
        exact next (fun q => h1 q.1)
  have l1 : ∀ (j k fu : Nat) (v : Int32), j + k = 12 → j < fu → ((v = -1 ∧ ∀ i, i < k → ¬ (sk 6 i = x ∧ sk 7 i = nI y)) ∨ ∃ g, g < k ∧ v = nI g ∧ sk 6 g = x ∧ sk 7 g = nI y) → ∃ w, FX1_frameWith_w5 fu x (nI y) v (nI k) sm = some (0, w, sm) ∧ Fst (fun i => sk 6 i = x ∧ sk 7 i = nI y) 12 w := by
    intro j
    induction j with
    | zero =>
      intro k fu v hk hf hi
      obtain ⟨f, rfl⟩ : ∃ f, fu = f + 1 := ⟨fu - 1, by omega⟩
      obtain rfl : k = 12 := by omega
      refine ⟨v, by rw [FX1_frameWith_w5, if_pos (by decide)], ?_⟩
      rcases hi with ⟨q1, q2⟩ | ⟨g, a1, a2, a3, a4⟩
      · exact Or.inr ⟨q2, q1⟩
      · exact Or.inl ⟨g, a1, ⟨a3, a4⟩, fun i hi hq => absurd (uq i g (by omega) a1 hq ⟨a3, a4⟩) (by omega), a2⟩
    | succ j ih =>
      intro k fu v hk hf hi
      obtain ⟨f, rfl⟩ : ∃ f, fu = f + 1 := ⟨fu - 1, by omega⟩
      have hk12 : k < 12 := by omega
      have n12 : ¬ (12 : Int32) ≤ nI k := by rw [pz_le12 (by omega)]; omega
      have e := (R.2.2.1 k hk12).1.2.1
      have old : ¬ (sk 6 k = x ∧ sk 7 k = nI y) → ((v = -1 ∧ ∀ i, i < k + 1 → ¬ (sk 6 i = x ∧ sk 7 i = nI y)) ∨ ∃ g, g < k + 1 ∧ v = nI g ∧ sk 6 g = x ∧ sk 7 g = nI y) := fun h0 => by
        rcases hi with ⟨q1, q2⟩ | ⟨g, a1, a2, a3⟩
        · refine Or.inl ⟨q1, fun i hi => ?_⟩
          rcases Nat.lt_or_ge i k with q | q
          · exact q2 i q
          · rw [show i = k by omega]; exact h0
        · exact Or.inr ⟨g, by omega, a2, a3⟩
      rw [FX1_frameWith_w5, if_neg n12, pz_gd hk12 (by omega), pz_tn (by omega), ← e, pz_1]
      by_cases h2 : sk 7 k = nI y
      · rw [if_pos h2, R.f1_holderOf hk12, pz_bnd]
        by_cases h1 : sk 6 k = x
        · rw [if_pos h1]
          exact ih (k + 1) f (nI k) (by omega) (by omega) (Or.inr ⟨k, by omega, rfl, h1, h2⟩)
        · rw [if_neg h1]
          exact ih (k + 1) f v (by omega) (by omega) (old (fun q => h1 q.1))
      · rw [if_neg h2]
        exact ih (k + 1) f v (by omega) (by omega) (old (fun q => h2 q.2))
  obtain ⟨v, h1, h2⟩ := l0 12 0 300 (by omega) (by omega) (fun i hi => by omega)
  obtain ⟨w, h3, h4⟩ := l1 12 0 300 (-1) (by omega) (by omega) (Or.inl ⟨rfl, fun i hi => by omega⟩)
  have e := h2.uniq h4
  subst e
  exact ⟨v, h1, h3, h2⟩
/-- a loan, in the words of the class's state -/
theorem Rel.f1_doesLast (R : Rel n c nl r t h sk sm) {j : Nat} (hj : j < nl) : FX1_doesLast (nI j) sm = some (0, sk 13 j, sm) := by
  have hnl := R.1.1.2.2
  obtain ⟨g, p, q, a1, a2, a3, a4, a5, a6, a7, a8⟩ := R.2.2.2.1 j hj
  have e := (R.2.2.2.2.1 j (by omega)).1.1
  unfold FX1_doesLast
  rw [pz_gd (n := 60) (by omega) (by omega), pz_tn (by omega), ← e, a5, pz_gd a1 (by omega), pz_tn (by omega)]
  rcases a8 with ⟨b1, b2⟩ | ⟨b1, b2⟩
  · rw [if_pos b2, b1]
  · rw [if_neg b2, b1]
theorem Rel.nl_m1 (R : Rel n c nl r t h sk sm) : sm 0 11 - 1 = dn nl := by
  rw [R.1.1.2.1]
  cases nl with
  | zero => rfl
  | succ m => exact nI_pred m
/-- what a process can call in: its loan j, of a frame whose page doesn't come -/
def cal (sk : ST) (x : Int32) (j : Nat) : Prop := ¬ sk 13 j = 0 ∧ sk 11 j = x ∧ cm sk (sk 10 j).toNatClampNeg = 0
theorem Rel.s_call (R : Rel n c nl r t h sk sm) (x : Int32) : ∃ v, FX1_calledIn x sm = some (0, v, sm) ∧ Fst (cal sk x) nl v ∧ (v = -1 → FX0_callIn x sk = some (0, -1, sk)) ∧ (∀ j, j < nl → v = nI j → FX0_callIn x sk = bnd (FX0_endLoan (nI j) sk) (fun _ s11 => gd (oz_in (nI j) 60) (some (0, s11 10 (nI j).toNatClampNeg, s11)))) := by
  have hnl := R.1.1.2.2
  have e14 := R.1.1.1
  have l1 : ∀ (m fu : Nat) (v : Int32), m ≤ nl → m < fu → Up (cal sk x) m nl v → ∃ w, FX1_calledIn_w9 fu x v (dn m) sm = some (0, w, sm) ∧ Fst (cal sk x) nl w := by
    intro m
    induction m with
    | zero =>
      intro fu v hm hf hu
      obtain ⟨f, rfl⟩ : ∃ f, fu = f + 1 := ⟨fu - 1, by omega⟩
      exact ⟨v, by rw [FX1_calledIn_w9, if_pos (by decide)], hu.fst⟩
    | succ m ih =>
      intro fu v hm hf hu
      obtain ⟨f, rfl⟩ : ∃ f, fu = f + 1 := ⟨fu - 1, by omega⟩
      obtain ⟨g, p, q, a1, a2, a3, a4, a5, a6, a7, a8⟩ := R.2.2.2.1 m (by omega)
      obtain ⟨e1, e2, e3, e4⟩ := (R.2.2.2.2.1 m (by omega)).1
      have g60 : ∀ o, gd (oz_in (nI m) 60) o = o := fun o => pz_gd (by omega) (by omega)
      rw [FX1_calledIn_w9, show dn (m + 1) = nI m from rfl, if_neg (pz_neg (by omega)), g60, pz_tn (by omega), ← e2, R.f1_doesLast (by omega), pz_bnd, g60, dn_pr, ← e1, a5, R.f1_isComing a1, pz_bnd]
      by_cases h1 : sk 11 m = x
      · rw [if_pos h1]
        by_cases h2 : sk 13 m = 0
        · rw [if_pos h2]
          exact ih f v (by omega) (by omega) (hu.no (fun z => z.1 h2))
        · rw [if_neg h2]
          have ec : cm sk (sk 10 m).toNatClampNeg = cm sk g := by rw [a5, pz_tn (by omega)]
          by_cases h3 : cm sk g = 0
          · rw [if_pos h3]
            exact ih f (nI m) (by omega) (by omega) (Up.yes (by omega) ⟨h2, h1, by rw [ec]; exact h3⟩)
          · rw [if_neg h3]
            exact ih f v (by omega) (by omega) (hu.no (fun z => h3 (by rw [← ec]; exact z.2.2)))
      · rw [if_neg h1]
        exact ih f v (by omega) (by omega) (hu.no (fun z => h1 z.2.1))
  have l0 : ∀ (m k fu : Nat), m + k = nl → m < fu → (∀ i, i < k → ¬ cal sk x i) → ∃ v, Fst (cal sk x) nl v ∧ (v = -1 → FX0_callIn_w2 fu x (nI k) sk = some (0, -1, sk)) ∧ (∀ j, j < nl → v = nI j → FX0_callIn_w2 fu x (nI k) sk = bnd (FX0_endLoan (nI j) sk) (fun _ s11 => gd (oz_in (nI j) 60) (some (0, s11 10 (nI j).toNatClampNeg, s11)))) := by
    intro m
    induction m with
    | zero =>
      intro k fu hk hf hn
      obtain ⟨f, rfl⟩ : ∃ f, fu = f + 1 := ⟨fu - 1, by omega⟩
      obtain rfl : k = nl := by omega
      refine ⟨-1, Or.inr ⟨hn, rfl⟩, fun _ => ?_, fun j hj e => absurd e (pz_m1' (by omega))⟩
      rw [FX0_callIn_w2, e14, if_pos (Int32.le_refl _), ite_self]
    | succ m ih =>
      intro k fu hk hf hn
      obtain ⟨f, rfl⟩ : ∃ f, fu = f + 1 := ⟨fu - 1, by omega⟩
      obtain ⟨g, p, q, a1, a2, a3, a4, a5, a6, a7, a8⟩ := R.2.2.2.1 k (by omega)
      have g60 : ∀ o, gd (oz_in (nI k) 60) o = o := fun o => pz_gd (by omega) (by omega)
      have ec : cm sk (sk 10 k).toNatClampNeg = cm sk g := by rw [a5, pz_tn (by omega)]
      have next : ¬ cal sk x k → ∃ v, Fst (cal sk x) nl v ∧ (v = -1 → FX0_callIn_w2 f x (nI (k + 1)) sk = some (0, -1, sk)) ∧ (∀ j, j < nl → v = nI j → FX0_callIn_w2 f x (nI (k + 1)) sk = bnd (FX0_endLoan (nI j) sk) (fun _ s11 => gd (oz_in (nI j) 60) (some (0, s11 10 (nI j).toNatClampNeg, s11)))) := fun h0 => ih (k + 1) f (by omega) (by omega) (fun i hi => by
        rcases Nat.lt_or_ge i k with q | q
        · exact hn i q
        · rw [show i = k by omega]; exact h0)
      have step : FX0_callIn_w2 (f + 1) x (nI k) sk = if sk 13 k = 0 then FX0_callIn_w2 f x (nI (k + 1)) sk else if sk 11 k = x then (if cm sk g = 0 then bnd (FX0_endLoan (nI k) sk) (fun _ s11 => gd (oz_in (nI k) 60) (some (0, s11 10 (nI k).toNatClampNeg, s11))) else FX0_callIn_w2 f x (nI (k + 1)) sk) else FX0_callIn_w2 f x (nI (k + 1)) sk := by
        rw [FX0_callIn_w2, e14, if_neg (fun z => absurd ((pz_le60 (by omega)).mp z) (by omega)), if_neg (fun z => absurd ((pz_le (by omega) (by omega)).mp z) (by omega))]
        rw [g60, g60, g60, pz_tn (by omega), a5, F0_isComing_in a1, pz_bnd, pz_1]
      rw [step]
      by_cases h2 : sk 13 k = 0
      · rw [if_pos h2]; exact next (fun z => z.1 h2)
      · rw [if_neg h2]
        by_cases h1 : sk 11 k = x
        · rw [if_pos h1]
          by_cases h3 : cm sk g = 0
          · rw [if_pos h3]
            refine ⟨nI k, Or.inl ⟨k, by omega, ⟨h2, h1, by rw [ec]; exact h3⟩, hn, rfl⟩, fun e => absurd e (pz_m1 (by omega)), fun j hj e => ?_⟩
            rw [(pz_eq (by omega) (by omega)).mp e]
          · rw [if_neg h3]; exact next (fun z => h3 (by rw [← ec]; exact z.2.2))
        · rw [if_neg h1]; exact next (fun z => h1 z.2.1)
  obtain ⟨v, h1, h2, h3⟩ := l0 nl 0 300 (by omega) (by omega) (fun i hi => by omega)
  obtain ⟨w, h4, h5⟩ := l1 nl 300 (-1) (by omega) (by omega) (Up.top nl)
  have e := h1.uniq h5
  subst e
  refine ⟨v, ?_, h1, h2, h3⟩
  unfold FX1_calledIn
  rw [R.nl_m1]
  exact h4
/-- the holder by the log of all loans -/
theorem Rel.s_log (R : Rel n c nl r t h sk sm) {f : Nat} (hf : f < 12) : FX0_holderByLog_w19 300 (nI f) 0 sk = some (0, sk 6 f, sk) := by
  have hnl := R.1.1.2.2
  have e14 := R.1.1.1
  have loop : ∀ (m k fu : Nat), m + k = nl → m < fu → (∀ i, i < k → ¬ (¬ sk 13 i = 0 ∧ sk 10 i = nI f)) → FX0_holderByLog_w19 fu (nI f) (nI k) sk = some (0, sk 6 f, sk) := by
    intro m
    induction m with
    | zero =>
      intro k fu hk hf2 hn
      obtain ⟨fu, rfl⟩ : ∃ f, fu = f + 1 := ⟨fu - 1, by omega⟩
      obtain rfl : k = nl := by omega
      rw [FX0_holderByLog_w19, e14, if_pos (Int32.le_refl _), ite_self, pz_gd hf (by omega), pz_tn (by omega)]
      have hl := (R.2.2.1 f hf).2.2.2.2.2.1
      rcases hl with ⟨b1, b2⟩ | ⟨j, b1, b2, b3, b4, b5⟩
      · rw [b2]
      · obtain ⟨g, p, q, a1, a2, a3, a4, a5, a6, a7, a8⟩ := R.2.2.2.1 j b1
        have hg : g = f := (pz_eq (by omega) (by omega)).mp (by rw [← a5, b3])
        rcases a8 with ⟨d1, d2⟩ | ⟨d1, d2⟩
        · exact absurd ⟨by rw [d1]; decide, b3⟩ (hn j b1)
        · exact absurd (by rw [hg]; exact b2) d2
    | succ m ih =>
      intro k fu hk hf2 hn
      obtain ⟨fu, rfl⟩ : ∃ f, fu = f + 1 := ⟨fu - 1, by omega⟩
      obtain ⟨g, p, q, a1, a2, a3, a4, a5, a6, a7, a8⟩ := R.2.2.2.1 k (by omega)
      have g60 : ∀ o, gd (oz_in (nI k) 60) o = o := fun o => pz_gd (by omega) (by omega)
      have next : ¬ (¬ sk 13 k = 0 ∧ sk 10 k = nI f) → FX0_holderByLog_w19 fu (nI f) (nI (k + 1)) sk = some (0, sk 6 f, sk) := fun h0 => ih (k + 1) fu (by omega) (by omega) (fun i hi => by
        rcases Nat.lt_or_ge i k with q | q
        · exact hn i q
        · rw [show i = k by omega]; exact h0)
      rw [FX0_holderByLog_w19, e14, if_neg (fun z => absurd ((pz_le60 (by omega)).mp z) (by omega)), if_neg (fun z => absurd ((pz_le (by omega) (by omega)).mp z) (by omega)), g60, g60, g60, pz_tn (by omega), pz_1]
      by_cases h2 : sk 13 k = 0
      · rw [if_pos h2]; exact next (fun z => z.1 h2)
      · rw [if_neg h2]
        by_cases h1 : sk 10 k = nI f
        · rw [if_pos h1]
          have hg : g = f := (pz_eq (by omega) (by omega)).mp (by rw [← a5, h1])
          subst hg
          have hs : sm 7 g = nI k := by
            rcases a8 with ⟨d1, d2⟩ | ⟨d1, d2⟩
            · exact d2
            · exact absurd d1 h2
          have hl := (R.2.2.1 g hf).2.2.2.2.2.1
          rcases hl with ⟨b1, b2⟩ | ⟨j, b1, b2, b3, b4, b5⟩
          · rw [hs] at b1; exact absurd b1 (pz_m1 (by omega))
          · have : j = k := (pz_eq (by omega) (by omega)).mp (by rw [← b2, hs])
            subst this
            rw [b4]
        · rw [if_neg h1]; exact next (fun z => h1 z.2)
  exact loop nl 0 300 (by omega) (by omega) (fun i hi => by omega)
end PW
