/-! WHAT CHANGES THE STATES KEEPS THE RELATION -/
theorem se_r {st : ST} {r i a b : Nat} {v : Int32} (h : a ≠ r) : oz_se st r i v a b = st a b := by rw [oz_se_at, if_neg (fun z => h z.1)]
theorem se_i {st : ST} {r i b : Nat} {v : Int32} (h : b ≠ i) : oz_se st r i v r b = st r b := by rw [oz_se_at, if_neg (fun z => h z.2)]
theorem se_s {st : ST} {r i : Nat} {v : Int32} : oz_se st r i v r i = v := by rw [oz_se_at, if_pos ⟨rfl, rfl⟩]
theorem se_self (st : ST) (r i : Nat) : oz_se st r i (st r i) = st := by
  funext a b
  rw [oz_se_at]
  by_cases h : a = r ∧ b = i
  · rw [if_pos h, h.1, h.2]
  · rw [if_neg h]
theorem se_comm (st : ST) {r r2 : Nat} (i i2 : Nat) (v v2 : Int32) (h : r ≠ r2) : oz_se (oz_se st r i v) r2 i2 v2 = oz_se (oz_se st r2 i2 v2) r i v := by
  funext a b
  simp only [oz_se_at]
  by_cases h1 : a = r ∧ b = i
  · have h2 : ¬ (a = r2 ∧ b = i2) := fun z => h (h1.1.symm.trans z.1)
    rw [if_neg h2, if_pos h1, if_pos h1]
  · rw [if_neg h1, if_neg h1]
theorem se_twice (st : ST) (r i : Nat) (v v2 : Int32) : oz_se (oz_se st r i v) r i v2 = oz_se st r i v2 := by
  funext a b
  simp only [oz_se_at]
  by_cases h1 : a = r ∧ b = i
  · rw [if_pos h1, if_pos h1]
  · rw [if_neg h1, if_neg h1, if_neg h1]
section PU
variable {n nl r t h : Nat} {c : Int32} {sk sm : ST}
/-- rows of processes alone -/
theorem Rel.of_R2 {n2 : Nat} {sk2 sm2 : ST} (R : Rel n c nl r t h sk sm) (hk : ∀ a b, a ≠ 1 → a ≠ 2 → a ≠ 3 → a ≠ 4 → sk2 a b = sk a b) (hm : ∀ a b, a ≠ 8 → a ≠ 9 → a ≠ 10 → a ≠ 11 → sm2 a b = sm a b) (h2 : R2 n2 sk2 sm2) : Rel n2 c nl r t h sk2 sm2 := by
  have k : ∀ a b, a = 0 ∨ 5 ≤ a → sk2 a b = sk a b := fun a b z => hk a b (by omega) (by omega) (by omega) (by omega)
  have m : ∀ a b, a < 8 ∨ 12 ≤ a → sm2 a b = sm a b := fun a b z => hm a b (by omega) (by omega) (by omega) (by omega)
  obtain ⟨h1, -, h3, h4, h5, h6, h7⟩ := R
  refine ⟨?_, h2, ?_, ?_, ?_, ?_, ?_⟩
  · unfold R1
    rw [k 0 14 (by omega), k 0 15 (by omega), k 0 16 (by omega), k 0 17 (by omega), m 0 11 (by omega), m 0 1 (by omega), m 0 0 (by omega), m 0 16 (by omega), m 0 18 (by omega)]
    exact h1
  · intro f hf
    have := h3 f hf
    unfold R3l at this ⊢
    rw [k 5 f (by omega), k 6 f (by omega), k 7 f (by omega), k 8 f (by omega), k 9 f (by omega), m 3 f (by omega), m 4 f (by omega), m 5 f (by omega), m 6 f (by omega), m 7 f (by omega)]
    simpa only [k 10 _ (by omega), k 11 _ (by omega), k 12 _ (by omega)] using this
  · intro j hj
    have := h4 j hj
    simpa only [k 10 _ (by omega), k 11 _ (by omega), k 12 _ (by omega), k 13 _ (by omega), m 7 _ (by omega)] using this
  · intro j hj
    have := h5 j hj
    rw [k 10 j (by omega), k 11 j (by omega), k 12 j (by omega), k 14 j (by omega), m 13 j (by omega), m 14 j (by omega), m 15 j (by omega), m 16 j (by omega)]
    exact this
  · intro f g hf hg
    rw [k 6 f (by omega), k 6 g (by omega), k 7 f (by omega), k 7 g (by omega)]
    exact h6 f g hf hg
  · unfold R7 at h7 ⊢
    rw [k 0 18 (by omega), m 0 17 (by omega)]
    simpa only [k 7 _ (by omega), k 8 _ (by omega)] using h7
theorem Rel.set_purse (R : Rel n c nl r t h sk sm) {n2 : Nat} (hn : n ≤ n2) {p u : Nat} (hp : p < 5) (hu : u ≤ n2) : Rel n2 c nl r t h (oz_se sk 2 p (nI u)) (oz_se sm 9 p (nI u)) := by
  refine R.of_R2 (fun a b _ z _ _ => se_r z) (fun a b _ z _ _ => se_r z) (fun q hq => ?_)
  obtain ⟨⟨a1, a2, a3, a4⟩, ⟨w, w1, w2⟩, v, v1, v2⟩ := R.2.1 q hq
  by_cases e : q = p
  · subst e
    refine ⟨⟨?_, ?_, ?_, ?_⟩, ⟨w, w1, ?_⟩, u, hu, ?_⟩ <;> simp (disch := decide) only [se_r, se_s, a1, a3, a4, w2]
    rw [← a1, w2]
  · refine ⟨⟨?_, ?_, ?_, ?_⟩, ⟨w, w1, ?_⟩, v, by omega, ?_⟩ <;> simp (disch := first | decide | assumption) only [se_r, se_i, a1, a2, a3, a4, w2]
    · rw [← a1, w2]
    · rw [← a2, v2]
theorem Rel.set_state (R : Rel n c nl r t h sk sm) {p : Nat} (hp : p < 5) (v : Int32) : Rel n c nl r t h (oz_se sk 3 p v) (oz_se sm 10 p v) := by
  refine R.of_R2 (fun a b _ _ z _ => se_r z) (fun a b _ _ z _ => se_r z) (fun q hq => ?_)
  obtain ⟨⟨a1, a2, a3, a4⟩, ⟨w, w1, w2⟩, u, v1, v2⟩ := R.2.1 q hq
  by_cases e : q = p
  · subst e
    refine ⟨⟨?_, ?_, ?_, ?_⟩, ⟨w, w1, ?_⟩, u, v1, ?_⟩ <;> simp (disch := decide) only [se_r, se_s] <;> assumption
  · refine ⟨⟨?_, ?_, ?_, ?_⟩, ⟨w, w1, ?_⟩, u, v1, ?_⟩ <;> simp (disch := first | decide | assumption) only [se_r, se_i] <;> assumption
theorem Rel.set_fault (R : Rel n c nl r t h sk sm) {p : Nat} (hp : p < 5) (v : Int32) : Rel n c nl r t h (oz_se sk 4 p v) (oz_se sm 11 p v) := by
  refine R.of_R2 (fun a b _ _ _ z => se_r z) (fun a b _ _ _ z => se_r z) (fun q hq => ?_)
  obtain ⟨⟨a1, a2, a3, a4⟩, ⟨w, w1, w2⟩, u, v1, v2⟩ := R.2.1 q hq
  by_cases e : q = p
  · subst e
    refine ⟨⟨?_, ?_, ?_, ?_⟩, ⟨w, w1, ?_⟩, u, v1, ?_⟩ <;> simp (disch := decide) only [se_r, se_s] <;> assumption
  · refine ⟨⟨?_, ?_, ?_, ?_⟩, ⟨w, w1, ?_⟩, u, v1, ?_⟩ <;> simp (disch := first | decide | assumption) only [se_r, se_i] <;> assumption
theorem Rel.set_wage (R : Rel n c nl r t h sk sm) {p w : Nat} (hp : p < 5) (hw : w ≤ 9) : Rel n c nl r t h (oz_se sk 1 p (nI w)) (oz_se sm 8 p (nI w)) := by
  refine R.of_R2 (fun a b z _ _ _ => se_r z) (fun a b z _ _ _ => se_r z) (fun q hq => ?_)
  obtain ⟨⟨a1, a2, a3, a4⟩, ⟨w', w1, w2⟩, u, v1, v2⟩ := R.2.1 q hq
  by_cases e : q = p
  · subst e
    refine ⟨⟨?_, ?_, ?_, ?_⟩, ⟨w, hw, ?_⟩, u, v1, ?_⟩ <;> simp (disch := decide) only [se_r, se_s] <;> assumption
  · refine ⟨⟨?_, ?_, ?_, ?_⟩, ⟨w', w1, ?_⟩, u, v1, ?_⟩ <;> simp (disch := first | decide | assumption) only [se_r, se_i] <;> assumption
/-- numbers of row 0: the rate, the head, the chosen, the tick -/
theorem Rel.set_rate (R : Rel n c nl r t h sk sm) {v : Nat} (hv : v ≤ 9) : Rel n c nl v t h (oz_se sk 0 15 (nI v)) (oz_se sm 0 1 (nI v)) := by
  obtain ⟨⟨h1, h2, h3, h4, h5⟩, h6, h7, h8, h9, h10, h11⟩ := R
  have k : ∀ a b, ¬ (a = 0 ∧ b = 15) → oz_se sk 0 15 (nI v) a b = sk a b := fun a b z => by rw [oz_se_at, if_neg z]
  have m : ∀ a b, ¬ (a = 0 ∧ b = 1) → oz_se sm 0 1 (nI v) a b = sm a b := fun a b z => by rw [oz_se_at, if_neg z]
  refine ⟨⟨?_, ⟨se_s, se_s, hv⟩, ?_, ?_, ?_⟩, ?_, ?_, ?_, ?_, ?_, ?_⟩
  · rw [k 0 14 (by omega), m 0 11 (by omega)]; exact h1
  · rw [k 0 16 (by omega), m 0 0 (by omega)]; exact h3
  · rw [k 0 17 (by omega), m 0 16 (by omega)]; exact h4
  · rw [m 0 18 (by omega)]; exact h5
  · intro p hp; simpa (disch := decide) only [se_r] using h6 p hp
  · intro f hf; simpa (disch := decide) only [se_r, R3l] using h7 f hf
  · intro j hj; simpa (disch := decide) only [se_r] using h8 j hj
  · intro j hj; simpa (disch := decide) only [se_r] using h9 j hj
  · intro f g hf hg; simpa (disch := decide) only [se_r] using h10 f g hf hg
  · unfold R7 at h11 ⊢; rw [k 0 18 (by omega), m 0 17 (by omega)]; simpa (disch := decide) only [se_r] using h11
theorem Rel.set_head (R : Rel n c nl r t h sk sm) {v : Nat} (hv : v < 40) : Rel n c nl r t v (oz_se sk 0 17 (nI v)) (oz_se sm 0 16 (nI v)) := by
  obtain ⟨⟨h1, h2, h3, h4, h5⟩, h6, h7, h8, h9, h10, h11⟩ := R
  have k : ∀ a b, ¬ (a = 0 ∧ b = 17) → oz_se sk 0 17 (nI v) a b = sk a b := fun a b z => by rw [oz_se_at, if_neg z]
  have m : ∀ a b, ¬ (a = 0 ∧ b = 16) → oz_se sm 0 16 (nI v) a b = sm a b := fun a b z => by rw [oz_se_at, if_neg z]
  refine ⟨⟨?_, ?_, ?_, ⟨se_s, se_s, hv⟩, ?_⟩, ?_, ?_, ?_, ?_, ?_, ?_⟩
  · rw [k 0 14 (by omega), m 0 11 (by omega)]; exact h1
  · rw [k 0 15 (by omega), m 0 1 (by omega)]; exact h2
  · rw [k 0 16 (by omega), m 0 0 (by omega)]; exact h3
  · rw [m 0 18 (by omega)]; exact h5
  · intro p hp; simpa (disch := decide) only [se_r] using h6 p hp
  · intro f hf; simpa (disch := decide) only [se_r, R3l] using h7 f hf
  · intro j hj; simpa (disch := decide) only [se_r] using h8 j hj
  · intro j hj; simpa (disch := decide) only [se_r] using h9 j hj
  · intro f g hf hg; simpa (disch := decide) only [se_r] using h10 f g hf hg
  · unfold R7 at h11 ⊢; rw [k 0 18 (by omega), m 0 17 (by omega)]; simpa (disch := decide) only [se_r] using h11
theorem Rel.set_chosen (R : Rel n c nl r t h sk sm) {v : Int32} (hv : v = -1 ∨ ∃ f, f < 12 ∧ v = nI f ∧ sk 7 f ≠ -1 ∧ sk 8 f = 0) : Rel n c nl r t h (oz_se sk 0 18 v) (oz_se sm 0 17 v) := by
  obtain ⟨⟨h1, h2, h3, h4, h5⟩, h6, h7, h8, h9, h10, h11⟩ := R
  have k : ∀ a b, ¬ (a = 0 ∧ b = 18) → oz_se sk 0 18 v a b = sk a b := fun a b z => by rw [oz_se_at, if_neg z]
  have m : ∀ a b, ¬ (a = 0 ∧ b = 17) → oz_se sm 0 17 v a b = sm a b := fun a b z => by rw [oz_se_at, if_neg z]
  refine ⟨⟨?_, ?_, ?_, ?_, ?_⟩, ?_, ?_, ?_, ?_, ?_, ?_⟩
  · rw [k 0 14 (by omega), m 0 11 (by omega)]; exact h1
  · rw [k 0 15 (by omega), m 0 1 (by omega)]; exact h2
  · rw [k 0 16 (by omega), m 0 0 (by omega)]; exact h3
  · rw [k 0 17 (by omega), m 0 16 (by omega)]; exact h4
  · rw [m 0 18 (by omega)]; exact h5
  · intro p hp; simpa (disch := decide) only [se_r] using h6 p hp
  · intro f hf; simpa (disch := decide) only [se_r, R3l] using h7 f hf
  · intro j hj; simpa (disch := decide) only [se_r] using h8 j hj
  · intro j hj; simpa (disch := decide) only [se_r] using h9 j hj
  · intro f g hf hg; simpa (disch := decide) only [se_r] using h10 f g hf hg
  · unfold R7; rw [se_s, se_s]; exact ⟨rfl, by simpa (disch := decide) only [se_r] using hv⟩
theorem Rel.set_tick (R : Rel n c nl r t h sk sm) (ht : t + 1 ≤ 50000) : Rel n c nl r (t + 1) h (oz_se sk 0 16 (nI (t + 1))) (oz_se sm 0 0 (nI (t + 1))) := by
  obtain ⟨⟨h1, h2, h3, h4, h5⟩, h6, h7, h8, h9, h10, h11⟩ := R
  have k : ∀ a b, ¬ (a = 0 ∧ b = 16) → oz_se sk 0 16 (nI (t + 1)) a b = sk a b := fun a b z => by rw [oz_se_at, if_neg z]
  have m : ∀ a b, ¬ (a = 0 ∧ b = 0) → oz_se sm 0 0 (nI (t + 1)) a b = sm a b := fun a b z => by rw [oz_se_at, if_neg z]
  refine ⟨⟨?_, ?_, ⟨se_s, se_s, ht⟩, ?_, ?_⟩, ?_, ?_, ?_, ?_, ?_, ?_⟩
  · rw [k 0 14 (by omega), m 0 11 (by omega)]; exact h1
  · rw [k 0 15 (by omega), m 0 1 (by omega)]; exact h2
  · rw [k 0 17 (by omega), m 0 16 (by omega)]; exact h4
  · rw [m 0 18 (by omega)]; exact h5
  · intro p hp; simpa (disch := decide) only [se_r] using h6 p hp
  · intro f hf
    obtain ⟨a1, a2, a3, a4, ⟨u, u1, u2⟩, a6⟩ := h7 f hf
    have : (sk 5 f = sm 3 f ∧ sk 7 f = sm 4 f ∧ sk 9 f = sm 6 f) ∧ (sk 5 f = -1 ∨ ∃ p, p < 5 ∧ sk 5 f = nI p) ∧ (sk 7 f = -1 ∨ ∃ v, v < 8 ∧ sk 7 f = nI v) ∧ (sk 8 f = (if sk 7 f = -1 then 0 else sm 5 f) ∧ (sm 5 f = 0 ∨ sm 5 f = 1)) ∧ (∃ u, u ≤ t + 1 ∧ sk 9 f = nI u) ∧ R3l nl sk sm f ∧ (sk 5 f = -1 → sk 7 f = -1) := ⟨a1, a2, a3, a4, ⟨u, by omega, u2⟩, a6⟩
    simpa (disch := decide) only [se_r, R3l] using this
  · intro j hj; simpa (disch := decide) only [se_r] using h8 j hj
  · intro j hj; simpa (disch := decide) only [se_r] using h9 j hj
  · intro f g hf hg; simpa (disch := decide) only [se_r] using h10 f g hf hg
  · unfold R7 at h11 ⊢; rw [k 0 18 (by omega), m 0 17 (by omega)]; simpa (disch := decide) only [se_r] using h11
/-- an interest -/
theorem Rel.set_int (R : Rel n c nl r t h sk sm) {j : Nat} (hj : j < nl) (v : Int32) : Rel n c nl r t h (oz_se sk 14 j v) (oz_se sm 16 j v) := by
  obtain ⟨h1, h6, h7, h8, h9, h10, h11⟩ := R
  refine ⟨by simpa (disch := decide) only [se_r, R1] using h1, fun p hp => ?_, fun f hf => ?_, fun i hi => ?_, fun i hi => ?_, fun f g hf hg => ?_, by simpa (disch := decide) only [se_r, R7] using h11⟩
  · simpa (disch := decide) only [se_r] using h6 p hp
  · simpa (disch := decide) only [se_r, R3l] using h7 f hf
  · simpa (disch := decide) only [se_r] using h8 i hi
  · obtain ⟨⟨a1, a2, a3, a4⟩, a5⟩ := h9 i hi
    by_cases e : i = j
    · subst e
      refine ⟨⟨?_, ?_, ?_, ?_⟩, fun q => by omega⟩ <;> simp (disch := decide) only [se_r, se_s] <;> assumption
    · refine ⟨⟨?_, ?_, ?_, ?_⟩, fun q => ?_⟩ <;> simp (disch := first | decide | assumption) only [se_r, se_i] <;> first | assumption | exact a5 q
  · simpa (disch := decide) only [se_r] using h10 f g hf hg
end PU
