/-! THE LAW'S LOOP ANSWERS 1 -/
theorem init_rel : Rel 20 0 0 1 0 0 ok_stX0 ok_stX1 := by
  have a1 : ok_stX0 0 14 = nI 0 ∧ ok_stX1 0 11 = nI 0 ∧ ok_stX0 0 15 = nI 1 ∧ ok_stX1 0 1 = nI 1 ∧ ok_stX0 0 16 = nI 0 ∧ ok_stX1 0 0 = nI 0 ∧ ok_stX0 0 17 = nI 0 ∧ ok_stX1 0 16 = nI 0 ∧ ok_stX1 0 18 = 0 ∧ ok_stX0 0 18 = ok_stX1 0 17 ∧ ok_stX0 0 18 = -1 := by decide +kernel
  have a2 : ∀ p, p < 5 → (ok_stX0 1 p = ok_stX1 8 p ∧ ok_stX0 2 p = ok_stX1 9 p ∧ ok_stX0 3 p = ok_stX1 10 p ∧ ok_stX0 4 p = ok_stX1 11 p) ∧ ok_stX0 1 p = nI 0 ∧ ok_stX0 2 p = nI 20 := by decide +kernel
  have a3 : ∀ f, f < 12 → (ok_stX0 5 f = ok_stX1 3 f ∧ ok_stX0 7 f = ok_stX1 4 f ∧ ok_stX0 9 f = ok_stX1 6 f) ∧ ok_stX0 5 f = -1 ∧ ok_stX0 7 f = -1 ∧ ok_stX0 8 f = 0 ∧ ok_stX1 5 f = 0 ∧ ok_stX0 9 f = nI 0 ∧ ok_stX1 7 f = -1 ∧ ok_stX0 6 f = ok_stX0 5 f := by decide +kernel
  have a5 : ∀ j, j < 60 → (ok_stX0 10 j = ok_stX1 13 j ∧ ok_stX0 11 j = ok_stX1 14 j ∧ ok_stX0 12 j = ok_stX1 15 j ∧ ok_stX0 14 j = ok_stX1 16 j) ∧ ok_stX0 14 j = 0 := by decide +kernel
  obtain ⟨b1, b2, b3, b4, b5, b6, b7, b8, b9, b10, b11⟩ := a1
  refine ⟨⟨⟨b1, b2, by omega⟩, ⟨b3, b4, by omega⟩, ⟨b5, b6, by omega⟩, ⟨b7, b8, by omega⟩, b9⟩, fun p hp => ?_, fun f hf => ?_, fun j hj => by omega, fun j hj => ⟨(a5 j hj).1, fun _ => (a5 j hj).2⟩, fun f g hf hg _ _ q => absurd (a3 f hf).2.2.1 q, b10, Or.inl b11⟩
  · obtain ⟨c1, c2, c3⟩ := a2 p hp
    exact ⟨c1, ⟨0, by omega, c2⟩, 20, by omega, c3⟩
  · obtain ⟨c1, c2, c3, c4, c5, c6, c7, c8⟩ := a3 f hf
    exact ⟨c1, Or.inl c2, Or.inl c3, ⟨by rw [c4, if_pos c3], Or.inl c5⟩, ⟨0, by omega, c6⟩, Or.inl ⟨c7, c8⟩, fun _ => c3⟩
theorem gdL1 (o : Option Int32) : gdL true o = o := rfl
theorem bw0 {cv : Int32 → Int64} {hs : List (Nat × Int32)} {f : Nat → Int64} {v : Int32} {s : ST} {g : Int32 → ST → (Nat → Int64) → Option Int32} : bw cv hs f (some (0, v, s)) g = g 0 s (vp_updL f 0 (cv v)) := rfl
theorem bw1 {cv : Int32 → Int64} {hs : List (Nat × Int32)} {f : Nat → Int64} {e : Nat} {v c : Int32} {s : ST} {g : Int32 → ST → (Nat → Int64) → Option Int32} (he : e ≠ 0) (hc : oz_code hs e = some c) : bw cv hs f (some (e, v, s)) g = g c s f := by
  unfold bw ow_r
  simp only [if_neg he, hc]
theorem bM0 {v : Int32} {s : ST} {g : Int32 → ST → Option Int32} : bM (some (0, v, s)) g = g v s := rfl
theorem F1_thrown_val (s : ST) : FX1_thrown s = some (0, s 0 18, s) := rfl
theorem lg_cmp_self (x : Int64) : lg_cmp x x = 0 := by
  unfold lg_cmp
  rw [if_neg (show ¬ x > x from Int64.lt_irrefl), if_pos rfl]
theorem upd0 (f : Nat → Int64) (x : Int64) : vp_updL f 0 x 0 = x := rfl
section PZ9
variable {j : Nat} {sk sm : ST} {hs : List (Nat × Int32)} {f : Nat → Int64} {o1 o2 : Option Res} {κ : ST → ST → (Nat → Int64) → Option Int32}
theorem fl_case (S : Sim Int32.toInt64 hs j o1 o2) (hκ : ∀ sk sm f, Iv j sk sm → κ sk sm f = some 1) : bw Int32.toInt64 hs f o1 (fun r k g => bM o2 (fun b s => bM (FX1_thrown s) (fun c s2 => if c = r then (if r = 0 then (if lg_cmp (g 0) b.toInt64 = 0 then κ k s2 g else some 0) else κ k s2 g) else some 0))) = some 1 := by
  obtain ⟨e, v, sk2, b, sm2, e1, e2, I, h⟩ := S
  rw [e1, e2]
  rcases h with ⟨rfl, h1, h2⟩ | ⟨h0, h1, h2⟩
  · rw [bw0, bM0, F1_thrown_val, bM0, h1, if_pos rfl, if_pos rfl, upd0, h2, lg_cmp_self, if_pos rfl]
    exact hκ _ _ _ I
  · rw [bw1 h0 h1, bM0, F1_thrown_val, bM0, if_pos rfl, if_neg h2]
    exact hκ _ _ _ I
theorem fl_caseZ (S : Sim ow_bit hs j o1 o2) (hκ : ∀ sk sm f, Iv j sk sm → κ sk sm f = some 1) : bw ow_bit hs f o1 (fun r k g => bM o2 (fun b s => bM (FX1_thrown s) (fun c s2 => if c = r then (if r = 0 then (if b = 0 then (if lg_cmp (g 0) 0 = 0 then κ k s2 g else some 0) else (if lg_cmp (g 0) 1 = 0 then κ k s2 g else some 0)) else κ k s2 g) else some 0))) = some 1 := by
  obtain ⟨e, v, sk2, b, sm2, e1, e2, I, h⟩ := S
  rw [e1, e2]
  rcases h with ⟨rfl, h1, h2⟩ | ⟨h0, h1, h2⟩
  · rw [bw0, bM0, F1_thrown_val, bM0, h1, if_pos rfl, if_pos rfl, upd0, h2]
    unfold ow_bit
    by_cases hb : b = 0
    · rw [if_pos hb, if_pos hb, lg_cmp_self, if_pos rfl]
      exact hκ _ _ _ I
    · rw [if_neg hb, if_neg hb, lg_cmp_self, if_pos rfl]
      exact hκ _ _ _ I
  · rw [bw1 h0 h1, bM0, F1_thrown_val, bM0, if_pos rfl, if_neg h2]
    exact hκ _ _ _ I
theorem fl_case0 (S : Sim0 j o1 o2) (hκ : ∀ sk sm f, Iv j sk sm → κ sk sm f = some 1) : bM o1 (fun r s => bM o2 (fun r2 s2 => if r = r2 then κ s s2 f else some 0)) = some 1 := by
  obtain ⟨v, sk2, sm2, e1, e2, I⟩ := S
  rw [e1, e2, bM0, bM0, if_pos rfl]
  exact hκ _ _ _ I
theorem fl_164 {xs : Nat → Int32} {N : Nat} {i : Int32} (I : Iv j sk sm) (hj : j ≤ 600) (hκ : ∀ sk sm f, Iv (j + 1) sk sm → κ sk sm f = some 1) (h1 : oz_in (i + 1) N = true) (h2 : oz_in (i + 2) N = true) : FLc_164 xs N κ i sk sm f = some 1 := by
  obtain ⟨c, nl, r, t, h, R⟩ := I
  have ht := R.1.2.2.1.2.2
  unfold FLc_164
  simp only [h1, h2, gdL1]
  exact fl_case (c_setWage R (by omega) (xs (i + 1).toNatClampNeg) (xs (i + 2).toNatClampNeg)) hκ
theorem fl_232 {xs : Nat → Int32} {N : Nat} {i : Int32} (I : Iv j sk sm) (hj : j ≤ 600) (hκ : ∀ sk sm f, Iv (j + 1) sk sm → κ sk sm f = some 1) (h1 : oz_in (i + 1) N = true) (h2 : oz_in (i + 2) N = true) : FLc_232 xs N κ i sk sm f = some 1 := by
  obtain ⟨c, nl, r, t, h, R⟩ := I
  have ht := R.1.2.2.1.2.2
  unfold FLc_232
  simp only [h1, h2, gdL1]
  exact fl_case (c_setRate R (by omega) (xs (i + 1).toNatClampNeg)) hκ
theorem fl_288 {xs : Nat → Int32} {N : Nat} {i : Int32} (I : Iv j sk sm) (hj : j ≤ 600) (hκ : ∀ sk sm f, Iv (j + 1) sk sm → κ sk sm f = some 1) (h1 : oz_in (i + 1) N = true) (h2 : oz_in (i + 2) N = true) : FLc_288 xs N κ i sk sm f = some 1 := by
  obtain ⟨c, nl, r, t, h, R⟩ := I
  have ht := R.1.2.2.1.2.2
  unfold FLc_288
  simp only [h1, h2, gdL1]
  exact fl_case (c_buy R (by omega) (by omega) (xs (i + 1).toNatClampNeg)) hκ
theorem fl_344 {xs : Nat → Int32} {N : Nat} {i : Int32} (I : Iv j sk sm) (hj : j ≤ 600) (hκ : ∀ sk sm f, Iv (j + 1) sk sm → κ sk sm f = some 1) (h1 : oz_in (i + 1) N = true) (h2 : oz_in (i + 2) N = true) : FLc_344 xs N κ i sk sm f = some 1 := by
  obtain ⟨c, nl, r, t, h, R⟩ := I
  have ht := R.1.2.2.1.2.2
  unfold FLc_344
  simp only [h1, h2, gdL1]
  exact fl_case (c_sell R (by omega) (xs (i + 1).toNatClampNeg)) hκ
theorem fl_400 {xs : Nat → Int32} {N : Nat} {i : Int32} (I : Iv j sk sm) (hj : j ≤ 600) (hκ : ∀ sk sm f, Iv (j + 1) sk sm → κ sk sm f = some 1) (h1 : oz_in (i + 1) N = true) (h2 : oz_in (i + 2) N = true) : FLc_400 xs N κ i sk sm f = some 1 := by
  obtain ⟨c, nl, r, t, h, R⟩ := I
  have ht := R.1.2.2.1.2.2
  unfold FLc_400
  simp only [h1, h2, gdL1]
  exact fl_case (c_drop R (by omega) (xs (i + 1).toNatClampNeg)) hκ
theorem fl_456 {xs : Nat → Int32} {N : Nat} {i : Int32} (I : Iv j sk sm) (hj : j ≤ 600) (hκ : ∀ sk sm f, Iv (j + 1) sk sm → κ sk sm f = some 1) (h1 : oz_in (i + 1) N = true) (h2 : oz_in (i + 2) N = true) : FLc_456 xs N κ i sk sm f = some 1 := by
  obtain ⟨c, nl, r, t, h, R⟩ := I
  have ht := R.1.2.2.1.2.2
  unfold FLc_456
  simp only [h1, h2, gdL1]
  exact fl_case (c_touch R (by omega) (by omega) (xs (i + 1).toNatClampNeg) (xs (i + 2).toNatClampNeg)) hκ
theorem fl_524 {xs : Nat → Int32} {N : Nat} {i : Int32} (I : Iv j sk sm) (hj : j ≤ 600) (hκ : ∀ sk sm f, Iv (j + 1) sk sm → κ sk sm f = some 1) (h1 : oz_in (i + 1) N = true) (h2 : oz_in (i + 2) N = true) : FLc_524 xs N κ i sk sm f = some 1 := by
  obtain ⟨c, nl, r, t, h, R⟩ := I
  have ht := R.1.2.2.1.2.2
  unfold FLc_524
  simp only [h1, h2, gdL1]
  exact fl_case (c_payBack R (by omega) (xs (i + 1).toNatClampNeg)) hκ
theorem fl_580 {xs : Nat → Int32} {N : Nat} {i : Int32} (I : Iv j sk sm) (hj : j ≤ 600) (hκ : ∀ sk sm f, Iv (j + 1) sk sm → κ sk sm f = some 1) (h1 : oz_in (i + 1) N = true) (h2 : oz_in (i + 2) N = true) : FLc_580 xs N κ i sk sm f = some 1 := by
  obtain ⟨c, nl, r, t, h, R⟩ := I
  have ht := R.1.2.2.1.2.2
  unfold FLc_580
  simp only [h1, h2, gdL1]
  exact fl_case (c_advance R (by omega) (by omega) (xs (i + 1).toNatClampNeg)) hκ
theorem fl_636 {xs : Nat → Int32} {N : Nat} {i : Int32} (I : Iv j sk sm) (hj : j ≤ 600) (hκ : ∀ sk sm f, Iv (j + 1) sk sm → κ sk sm f = some 1) (h1 : oz_in (i + 1) N = true) (h2 : oz_in (i + 2) N = true) : FLc_636 xs N κ i sk sm f = some 1 := by
  obtain ⟨c, nl, r, t, h, R⟩ := I
  have ht := R.1.2.2.1.2.2
  unfold FLc_636
  exact fl_case0 (c_tick R (by omega)) hκ
theorem fl_649 {xs : Nat → Int32} {N : Nat} {i : Int32} (I : Iv j sk sm) (hj : j ≤ 600) (hκ : ∀ sk sm f, Iv (j + 1) sk sm → κ sk sm f = some 1) (h1 : oz_in (i + 1) N = true) (h2 : oz_in (i + 2) N = true) : FLc_649 xs N κ i sk sm f = some 1 := by
  obtain ⟨c, nl, r, t, h, R⟩ := I
  have ht := R.1.2.2.1.2.2
  unfold FLc_649
  simp only [h1, h2, gdL1]
  exact fl_case (c_owner R (by omega) (xs (i + 1).toNatClampNeg)) hκ
theorem fl_705 {xs : Nat → Int32} {N : Nat} {i : Int32} (I : Iv j sk sm) (hj : j ≤ 600) (hκ : ∀ sk sm f, Iv (j + 1) sk sm → κ sk sm f = some 1) (h1 : oz_in (i + 1) N = true) (h2 : oz_in (i + 2) N = true) : FLc_705 xs N κ i sk sm f = some 1 := by
  obtain ⟨c, nl, r, t, h, R⟩ := I
  have ht := R.1.2.2.1.2.2
  unfold FLc_705
  simp only [h1, h2, gdL1]
  exact fl_case (c_holder R (by omega) (xs (i + 1).toNatClampNeg)) hκ
theorem fl_761 {xs : Nat → Int32} {N : Nat} {i : Int32} (I : Iv j sk sm) (hj : j ≤ 600) (hκ : ∀ sk sm f, Iv (j + 1) sk sm → κ sk sm f = some 1) (h1 : oz_in (i + 1) N = true) (h2 : oz_in (i + 2) N = true) : FLc_761 xs N κ i sk sm f = some 1 := by
  obtain ⟨c, nl, r, t, h, R⟩ := I
  have ht := R.1.2.2.1.2.2
  unfold FLc_761
  simp only [h1, h2, gdL1]
  exact fl_case (c_holderByLog R (by omega) (xs (i + 1).toNatClampNeg)) hκ
theorem fl_817 {xs : Nat → Int32} {N : Nat} {i : Int32} (I : Iv j sk sm) (hj : j ≤ 600) (hκ : ∀ sk sm f, Iv (j + 1) sk sm → κ sk sm f = some 1) (h1 : oz_in (i + 1) N = true) (h2 : oz_in (i + 2) N = true) : FLc_817 xs N κ i sk sm f = some 1 := by
  obtain ⟨c, nl, r, t, h, R⟩ := I
  have ht := R.1.2.2.1.2.2
  unfold FLc_817
  simp only [h1, h2, gdL1]
  exact fl_case (c_pageIn R (by omega) (xs (i + 1).toNatClampNeg)) hκ
theorem fl_873 {xs : Nat → Int32} {N : Nat} {i : Int32} (I : Iv j sk sm) (hj : j ≤ 600) (hκ : ∀ sk sm f, Iv (j + 1) sk sm → κ sk sm f = some 1) (h1 : oz_in (i + 1) N = true) (h2 : oz_in (i + 2) N = true) : FLc_873 xs N κ i sk sm f = some 1 := by
  obtain ⟨c, nl, r, t, h, R⟩ := I
  have ht := R.1.2.2.1.2.2
  unfold FLc_873
  simp only [h1, h2, gdL1]
  exact fl_case (c_age R (by omega) (xs (i + 1).toNatClampNeg)) hκ
theorem fl_929 {xs : Nat → Int32} {N : Nat} {i : Int32} (I : Iv j sk sm) (hj : j ≤ 600) (hκ : ∀ sk sm f, Iv (j + 1) sk sm → κ sk sm f = some 1) (h1 : oz_in (i + 1) N = true) (h2 : oz_in (i + 2) N = true) : FLc_929 xs N κ i sk sm f = some 1 := by
  obtain ⟨c, nl, r, t, h, R⟩ := I
  have ht := R.1.2.2.1.2.2
  unfold FLc_929
  exact fl_case0 (c_free R (by omega)) hκ
theorem fl_942 {xs : Nat → Int32} {N : Nat} {i : Int32} (I : Iv j sk sm) (hj : j ≤ 600) (hκ : ∀ sk sm f, Iv (j + 1) sk sm → κ sk sm f = some 1) (h1 : oz_in (i + 1) N = true) (h2 : oz_in (i + 2) N = true) : FLc_942 xs N κ i sk sm f = some 1 := by
  obtain ⟨c, nl, r, t, h, R⟩ := I
  have ht := R.1.2.2.1.2.2
  unfold FLc_942
  simp only [h1, h2, gdL1]
  exact fl_case (c_owns R (by omega) (xs (i + 1).toNatClampNeg)) hκ
theorem fl_998 {xs : Nat → Int32} {N : Nat} {i : Int32} (I : Iv j sk sm) (hj : j ≤ 600) (hκ : ∀ sk sm f, Iv (j + 1) sk sm → κ sk sm f = some 1) (h1 : oz_in (i + 1) N = true) (h2 : oz_in (i + 2) N = true) : FLc_998 xs N κ i sk sm f = some 1 := by
  obtain ⟨c, nl, r, t, h, R⟩ := I
  have ht := R.1.2.2.1.2.2
  unfold FLc_998
  simp only [h1, h2, gdL1]
  exact fl_case (c_borrowed R (by omega) (xs (i + 1).toNatClampNeg)) hκ
theorem fl_1054 {xs : Nat → Int32} {N : Nat} {i : Int32} (I : Iv j sk sm) (hj : j ≤ 600) (hκ : ∀ sk sm f, Iv (j + 1) sk sm → κ sk sm f = some 1) (h1 : oz_in (i + 1) N = true) (h2 : oz_in (i + 2) N = true) : FLc_1054 xs N κ i sk sm f = some 1 := by
  obtain ⟨c, nl, r, t, h, R⟩ := I
  have ht := R.1.2.2.1.2.2
  unfold FLc_1054
  simp only [h1, h2, gdL1]
  exact fl_case (c_lent R (by omega) (xs (i + 1).toNatClampNeg)) hκ
theorem fl_1110 {xs : Nat → Int32} {N : Nat} {i : Int32} (I : Iv j sk sm) (hj : j ≤ 600) (hκ : ∀ sk sm f, Iv (j + 1) sk sm → κ sk sm f = some 1) (h1 : oz_in (i + 1) N = true) (h2 : oz_in (i + 2) N = true) : FLc_1110 xs N κ i sk sm f = some 1 := by
  obtain ⟨c, nl, r, t, h, R⟩ := I
  have ht := R.1.2.2.1.2.2
  unfold FLc_1110
  simp only [h1, h2, gdL1]
  exact fl_case (c_stateOf R (by omega) (xs (i + 1).toNatClampNeg)) hκ
theorem fl_1166 {xs : Nat → Int32} {N : Nat} {i : Int32} (I : Iv j sk sm) (hj : j ≤ 600) (hκ : ∀ sk sm f, Iv (j + 1) sk sm → κ sk sm f = some 1) (h1 : oz_in (i + 1) N = true) (h2 : oz_in (i + 2) N = true) : FLc_1166 xs N κ i sk sm f = some 1 := by
  obtain ⟨c, nl, r, t, h, R⟩ := I
  have ht := R.1.2.2.1.2.2
  unfold FLc_1166
  simp only [h1, h2, gdL1]
  exact fl_case (c_purse R (by omega) (xs (i + 1).toNatClampNeg)) hκ
theorem fl_1222 {xs : Nat → Int32} {N : Nat} {i : Int32} (I : Iv j sk sm) (hj : j ≤ 600) (hκ : ∀ sk sm f, Iv (j + 1) sk sm → κ sk sm f = some 1) (h1 : oz_in (i + 1) N = true) (h2 : oz_in (i + 2) N = true) : FLc_1222 xs N κ i sk sm f = some 1 := by
  obtain ⟨c, nl, r, t, h, R⟩ := I
  have ht := R.1.2.2.1.2.2
  unfold FLc_1222
  simp only [h1, h2, gdL1]
  exact fl_case (c_faults R (by omega) (xs (i + 1).toNatClampNeg)) hκ
theorem fl_1278 {xs : Nat → Int32} {N : Nat} {i : Int32} (I : Iv j sk sm) (hj : j ≤ 600) (hκ : ∀ sk sm f, Iv (j + 1) sk sm → κ sk sm f = some 1) (h1 : oz_in (i + 1) N = true) (h2 : oz_in (i + 2) N = true) : FLc_1278 xs N κ i sk sm f = some 1 := by
  obtain ⟨c, nl, r, t, h, R⟩ := I
  have ht := R.1.2.2.1.2.2
  unfold FLc_1278
  exact fl_case0 (c_loans R (by omega)) hκ
theorem fl_1291 {xs : Nat → Int32} {N : Nat} {i : Int32} (I : Iv j sk sm) (hj : j ≤ 600) (hκ : ∀ sk sm f, Iv (j + 1) sk sm → κ sk sm f = some 1) (h1 : oz_in (i + 1) N = true) (h2 : oz_in (i + 2) N = true) : FLc_1291 xs N κ i sk sm f = some 1 := by
  obtain ⟨c, nl, r, t, h, R⟩ := I
  have ht := R.1.2.2.1.2.2
  unfold FLc_1291
  simp only [h1, h2, gdL1]
  exact fl_caseZ (c_lasts R (by omega) (xs (i + 1).toNatClampNeg)) hκ
theorem fl_1354 {xs : Nat → Int32} {N : Nat} {i : Int32} (I : Iv j sk sm) (hj : j ≤ 600) (hκ : ∀ sk sm f, Iv (j + 1) sk sm → κ sk sm f = some 1) (h1 : oz_in (i + 1) N = true) (h2 : oz_in (i + 2) N = true) : FLc_1354 xs N κ i sk sm f = some 1 := by
  obtain ⟨c, nl, r, t, h, R⟩ := I
  have ht := R.1.2.2.1.2.2
  unfold FLc_1354
  simp only [h1, h2, gdL1]
  exact fl_case (c_partiesOf R (by omega) (xs (i + 1).toNatClampNeg)) hκ
theorem fl_1410 {xs : Nat → Int32} {N : Nat} {i : Int32} (I : Iv j sk sm) (hj : j ≤ 600) (hκ : ∀ sk sm f, Iv (j + 1) sk sm → κ sk sm f = some 1) (h1 : oz_in (i + 1) N = true) (h2 : oz_in (i + 2) N = true) : FLc_1410 xs N κ i sk sm f = some 1 := by
  obtain ⟨c, nl, r, t, h, R⟩ := I
  have ht := R.1.2.2.1.2.2
  unfold FLc_1410
  simp only [h1, h2, gdL1]
  exact fl_case (c_interest R (by omega) (xs (i + 1).toNatClampNeg)) hκ
theorem fl_1466 {xs : Nat → Int32} {N : Nat} {i : Int32} (I : Iv j sk sm) (hj : j ≤ 600) (hκ : ∀ sk sm f, Iv (j + 1) sk sm → κ sk sm f = some 1) (h1 : oz_in (i + 1) N = true) (h2 : oz_in (i + 2) N = true) : FLc_1466 xs N κ i sk sm f = some 1 := by
  obtain ⟨c, nl, r, t, h, R⟩ := I
  have ht := R.1.2.2.1.2.2
  unfold FLc_1466
  exact fl_case0 (c_head R (by omega)) hκ
theorem fl_1479 {xs : Nat → Int32} {N : Nat} {i : Int32} (I : Iv j sk sm) (hj : j ≤ 600) (hκ : ∀ sk sm f, Iv (j + 1) sk sm → κ sk sm f = some 1) (h1 : oz_in (i + 1) N = true) (h2 : oz_in (i + 2) N = true) : FLc_1479 xs N κ i sk sm f = some 1 := by
  obtain ⟨c, nl, r, t, h, R⟩ := I
  have ht := R.1.2.2.1.2.2
  unfold FLc_1479
  exact fl_case0 (c_requests R (by omega)) hκ
theorem fl_1492 {xs : Nat → Int32} {N : Nat} {i : Int32} (I : Iv j sk sm) (hj : j ≤ 600) (hκ : ∀ sk sm f, Iv (j + 1) sk sm → κ sk sm f = some 1) (h1 : oz_in (i + 1) N = true) (h2 : oz_in (i + 2) N = true) : FLc_1492 xs N κ i sk sm f = some 1 := by
  obtain ⟨c, nl, r, t, h, R⟩ := I
  have ht := R.1.2.2.1.2.2
  unfold FLc_1492
  simp only [h1, h2, gdL1]
  exact fl_case (c_requestAt R (by omega) (xs (i + 1).toNatClampNeg)) hκ
theorem fl_sw {xs : Nat → Int32} {N : Nat} {i : Int32} (I : Iv j sk sm) (hj : j ≤ 600) (hκ : ∀ sk sm f, Iv (j + 1) sk sm → κ sk sm f = some 1) (h1 : oz_in (i + 1) N = true) (h2 : oz_in (i + 2) N = true) (x : Int32) : FL_sw xs N κ i x sk sm f = some 1 := by
  unfold FL_sw
  by_cases q0 : x = 0
  · rw [if_pos q0]; exact fl_164 I hj hκ h1 h2
  rw [if_neg q0]
  by_cases q1 : x = 1
  · rw [if_pos q1]; exact fl_232 I hj hκ h1 h2
  rw [if_neg q1]
  by_cases q2 : x = 2
  · rw [if_pos q2]; exact fl_288 I hj hκ h1 h2
  rw [if_neg q2]
  by_cases q3 : x = 3
  · rw [if_pos q3]; exact fl_344 I hj hκ h1 h2
  rw [if_neg q3]
  by_cases q4 : x = 4
  · rw [if_pos q4]; exact fl_400 I hj hκ h1 h2
  rw [if_neg q4]
  by_cases q5 : x = 5
  · rw [if_pos q5]; exact fl_456 I hj hκ h1 h2
  rw [if_neg q5]
  by_cases q6 : x = 6
  · rw [if_pos q6]; exact fl_524 I hj hκ h1 h2
  rw [if_neg q6]
  by_cases q7 : x = 7
  · rw [if_pos q7]; exact fl_580 I hj hκ h1 h2
  rw [if_neg q7]
  by_cases q8 : x = 8
  · rw [if_pos q8]; exact fl_636 I hj hκ h1 h2
  rw [if_neg q8]
  by_cases q9 : x = 9
  · rw [if_pos q9]; exact fl_649 I hj hκ h1 h2
  rw [if_neg q9]
  by_cases q10 : x = 10
  · rw [if_pos q10]; exact fl_705 I hj hκ h1 h2
  rw [if_neg q10]
  by_cases q11 : x = 11
  · rw [if_pos q11]; exact fl_761 I hj hκ h1 h2
  rw [if_neg q11]
  by_cases q12 : x = 12
  · rw [if_pos q12]; exact fl_817 I hj hκ h1 h2
  rw [if_neg q12]
  by_cases q13 : x = 13
  · rw [if_pos q13]; exact fl_873 I hj hκ h1 h2
  rw [if_neg q13]
  by_cases q14 : x = 14
  · rw [if_pos q14]; exact fl_929 I hj hκ h1 h2
  rw [if_neg q14]
  by_cases q15 : x = 15
  · rw [if_pos q15]; exact fl_942 I hj hκ h1 h2
  rw [if_neg q15]
  by_cases q16 : x = 16
  · rw [if_pos q16]; exact fl_998 I hj hκ h1 h2
  rw [if_neg q16]
  by_cases q17 : x = 17
  · rw [if_pos q17]; exact fl_1054 I hj hκ h1 h2
  rw [if_neg q17]
  by_cases q18 : x = 18
  · rw [if_pos q18]; exact fl_1110 I hj hκ h1 h2
  rw [if_neg q18]
  by_cases q19 : x = 19
  · rw [if_pos q19]; exact fl_1166 I hj hκ h1 h2
  rw [if_neg q19]
  by_cases q20 : x = 20
  · rw [if_pos q20]; exact fl_1222 I hj hκ h1 h2
  rw [if_neg q20]
  by_cases q21 : x = 21
  · rw [if_pos q21]; exact fl_1278 I hj hκ h1 h2
  rw [if_neg q21]
  by_cases q22 : x = 22
  · rw [if_pos q22]; exact fl_1291 I hj hκ h1 h2
  rw [if_neg q22]
  by_cases q23 : x = 23
  · rw [if_pos q23]; exact fl_1354 I hj hκ h1 h2
  rw [if_neg q23]
  by_cases q24 : x = 24
  · rw [if_pos q24]; exact fl_1410 I hj hκ h1 h2
  rw [if_neg q24]
  by_cases q25 : x = 25
  · rw [if_pos q25]; exact fl_1466 I hj hκ h1 h2
  rw [if_neg q25]
  by_cases q26 : x = 26
  · rw [if_pos q26]; exact fl_1479 I hj hκ h1 h2
  rw [if_neg q26]
  by_cases q27 : x = 27
  · rw [if_pos q27]; exact fl_1492 I hj hκ h1 h2
  rw [if_neg q27]
  obtain ⟨c, nl, r, t, h, R⟩ := I
  exact hκ _ _ _ (Iv.of R (by omega))
end PZ9
theorem oz_inN {k N : Nat} (h : k < N) (hN : N ≤ 1536) : oz_in (nI k) N = true := by
  unfold oz_in
  rw [nI_toInt (by omega)]
  simp
  exact h
theorem fl_loop {xs : Nat → Int32} {N : Nat} (hN : N ≤ 1536) : ∀ (n j : Nat) (sk sm : ST) (f : Nat → Int64), n + j = 514 → 3 * j ≤ N → Iv j sk sm → FL_loop xs N n (nI (3 * j)) sk sm f = some 1 := by
  intro n
  induction n with
  | zero => intro j sk sm f h1 h2; omega
  | succ n ih =>
    intro j sk sm f h1 h2 I
    rw [FL_loop, show Int32.ofNat N = nI N from rfl]
    by_cases h3 : 3 * j + 3 ≤ N
    · have e : nI N - 3 = nI (N - 3) := pz_sub (b := 3) (by omega)
      have l : ¬ nI N - 3 < nI (3 * j) := by
        rw [e]
        exact fun q => absurd ((pz_lt (by omega) (by omega)).mp q) (by omega)
      have i1 : oz_in (nI (3 * j) + 1) N = true := by rw [pz_1]; exact oz_inN (by omega) hN
      have i2 : oz_in (nI (3 * j) + 2) N = true := by
        rw [show nI (3 * j) + 2 = nI (3 * j + 2) from nI_add (3 * j) 2]
        exact oz_inN (by omega) hN
      rw [if_neg l, oz_inN (by omega) hN, gdL1]
      refine fl_sw I (by omega) (fun sk sm f I2 => ?_) i1 i2 _
      have e3 : nI (3 * j) + 3 = nI (3 * (j + 1)) := nI_add (3 * j) 3
      rw [e3]
      exact ih (j + 1) sk sm f (by omega) (by omega) I2
    · have l : nI N - 3 < nI (3 * j) := by
        by_cases h4 : 3 ≤ N
        · rw [show nI N - 3 = nI (N - 3) from pz_sub (b := 3) h4]
          exact (pz_lt (by omega) (by omega)).mpr (by omega)
        · obtain rfl : j = 0 := by omega
          have : N = 0 ∨ N = 1 ∨ N = 2 := by omega
          rcases this with rfl | rfl | rfl <;> decide
      rw [if_pos l]
theorem pure_main (xs : Nat → Int32) (L : Nat) (hL : L ≤ 1536) : FL_loop xs L 514 0 ok_stX0 ok_stX1 (fun _ => 0) = some 1 :=
  fl_loop hL 514 0 ok_stX0 ok_stX1 (fun _ => 0) rfl (Nat.zero_le _) ⟨0, 0, 1, 0, 0, init_rel⟩
