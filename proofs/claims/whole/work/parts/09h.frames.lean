/-! CHANGES OF FRAMES AND LOANS -/
/-- the choice, when the page of f is dropped -/
def chf (s : ST) (f : Nat) : Int32 := if s 0 18 = nI f then -1 else s 0 18
def dp (s : ST) (f : Nat) : ST := oz_se (oz_se (oz_se s 7 f (-1)) 8 f 0) 0 18 (chf s f)
theorem F0_dropPage_in {f : Nat} (hf : f < 12) (s : ST) : FX0_dropPage (nI f) s = some (0, 0, dp s f) := by
  unfold FX0_dropPage dp chf
  rw [pz_gd hf (by omega), pz_stp, pz_gd hf (by omega), pz_stp, pz_tn (by omega)]
  have e : oz_se (oz_se s 7 f (-1)) 8 f 0 0 18 = s 0 18 := by rw [se_r (by decide), se_r (by decide)]
  rw [e]
  by_cases h1 : s 0 18 = nI f
  · rw [if_pos h1, if_pos h1, pz_stp]
  · rw [if_neg h1, if_neg h1]
    have e2 := se_self (oz_se (oz_se s 7 f (-1)) 8 f 0) 0 18
    rw [e] at e2
    rw [e2]
section PT
variable {n nl r t h : Nat} {c : Int32} {sk sm : ST}
theorem Rel.own_to (R : Rel n c nl r t h sk sm) {f : Nat} (hf : f < 12) {x : Int32} (hx : x = -1 ∨ ∃ p, p < 5 ∧ x = nI p) (hl : sm 7 f = -1) (hp : sk 7 f = -1) : Rel n c nl r t h (oz_se (oz_se sk 5 f x) 6 f x) (oz_se sm 3 f x) := by
  obtain ⟨h1, h2, h3, h4, h5, h6, h7⟩ := R
  refine ⟨by simpa (disch := decide) only [se_r, R1] using h1, fun p hp => ?_, fun g hg => ?_, fun i hi => ?_, fun i hi => ?_, fun a b ha hb => ?_, by simpa (disch := decide) only [se_r, R7] using h7⟩
  · simpa (disch := decide) only [se_r] using h2 p hp
  · by_cases e : g = f
    · subst e
      obtain ⟨⟨a1, a2, a3⟩, b1, b2, b3, b4, b5, b6⟩ := h3 g hg
      refine ⟨⟨?_, ?_, ?_⟩, ?_, ?_, ⟨?_, ?_⟩, ?_, Or.inl ⟨?_, ?_⟩, fun _ => ?_⟩
      · rw [se_r (by decide), se_s, se_s]
      · rw [se_r (by decide), se_r (by decide), se_r (by decide)]; exact a2
      · rw [se_r (by decide), se_r (by decide), se_r (by decide)]; exact a3
      · rw [se_r (by decide), se_s]; exact hx
      · rw [se_r (by decide), se_r (by decide)]; exact b2
      · simp (disch := decide) only [se_r]; exact b3.1
      · rw [se_r (by decide)]; exact b3.2
      · rw [se_r (by decide), se_r (by decide)]; exact b4
      · rw [se_r (by decide)]; exact hl
      · rw [se_s, se_r (by decide), se_s]
      · rw [se_r (by decide), se_r (by decide)]; exact hp
    · simpa (disch := first | decide | assumption) only [se_r, se_i, R3l] using h3 g hg
  · simpa (disch := decide) only [se_r] using h4 i hi
  · simpa (disch := decide) only [se_r] using h5 i hi
  · have e7 : ∀ i, oz_se (oz_se sk 5 f x) 6 f x 7 i = sk 7 i := fun i => by rw [se_r (by decide), se_r (by decide)]
    rw [e7, e7]
    intro q1 q2 q3
    have ea : a ≠ f := fun z => q3 (by rw [z]; exact hp)
    have eb : b ≠ f := fun z => q3 (by rw [q2, z]; exact hp)
    rw [se_i ea, se_i eb, se_r (by decide), se_r (by decide)] at q1
    exact h6 a b ha hb q1 q2 q3
/-- the page of f is dropped -/
theorem Rel.drop (R : Rel n c nl r t h sk sm) {f : Nat} (hf : f < 12) : Rel n c nl r t h (dp sk f) (oz_se (oz_se sm 0 17 (chf sk f)) 4 f (-1)) := by
  have hch : chf sk f = -1 ∨ ∃ g, g < 12 ∧ g ≠ f ∧ chf sk f = nI g ∧ sk 7 g ≠ -1 ∧ sk 8 g = 0 := by
    unfold chf
    by_cases q : sk 0 18 = nI f
    · exact Or.inl (by rw [if_pos q])
    · rw [if_neg q]
      rcases R.2.2.2.2.2.2.2 with z | ⟨g, g1, g2, g3, g4⟩
      · exact Or.inl z
      · exact Or.inr ⟨g, g1, fun z => q (by rw [g2, z]), g2, g3, g4⟩
  obtain ⟨⟨c1, c2, c3, c4, c5⟩, h2, h3, h4, h5, h6, h7⟩ := R
  unfold dp
  generalize chf sk f = x at hch
  have k0 : ∀ b, b ≠ 18 → oz_se (oz_se (oz_se sk 7 f (-1)) 8 f 0) 0 18 x 0 b = sk 0 b := fun b hb => by rw [se_i hb, se_r (by decide), se_r (by decide)]
  have m0 : ∀ b, b ≠ 17 → oz_se (oz_se sm 0 17 x) 4 f (-1) 0 b = sm 0 b := fun b hb => by rw [se_r (by decide), se_i hb]
  refine ⟨⟨?_, ?_, ?_, ?_, ?_⟩, fun p hp => ?_, fun g hg => ?_, fun i hi => ?_, fun i hi => ?_, fun a b ha hb => ?_, ?_, ?_⟩
  · rw [k0 14 (by decide), m0 11 (by decide)]; exact c1
  · rw [k0 15 (by decide), m0 1 (by decide)]; exact c2
  · rw [k0 16 (by decide), m0 0 (by decide)]; exact c3
  · rw [k0 17 (by decide), m0 16 (by decide)]; exact c4
  · rw [m0 18 (by decide)]; exact c5
  · simpa (disch := decide) only [se_r] using h2 p hp
  · by_cases e : g = f
    · subst e
      obtain ⟨⟨a1, a2, a3⟩, b1, b2, b3, b4, b5, b6⟩ := h3 g hg
      have e7 : oz_se (oz_se (oz_se sk 7 g (-1)) 8 g 0) 0 18 x 7 g = -1 := by rw [se_r (by decide), se_r (by decide), se_s]
      refine ⟨⟨?_, ?_, ?_⟩, ?_, Or.inl e7, ⟨?_, ?_⟩, ?_, ?_, fun _ => e7⟩
      · simp (disch := decide) only [se_r]; exact a1
      · rw [e7, se_s]
      · simp (disch := decide) only [se_r]; exact a3
      · simp (disch := decide) only [se_r]; exact b1
      · rw [e7, if_pos rfl, se_r (by decide), se_s]
      · simp (disch := decide) only [se_r]; exact b3.2
      · simp (disch := decide) only [se_r]; exact b4
      · simpa (disch := decide) only [se_r, R3l] using b5
    · simpa (disch := first | decide | assumption) only [se_r, se_i, R3l] using h3 g hg
  · simpa (disch := decide) only [se_r] using h4 i hi
  · simpa (disch := decide) only [se_r] using h5 i hi
  · have e7 : ∀ i, i ≠ f → oz_se (oz_se (oz_se sk 7 f (-1)) 8 f 0) 0 18 x 7 i = sk 7 i := fun i hi => by rw [se_r (by decide), se_r (by decide), se_i hi]
    have e7f : oz_se (oz_se (oz_se sk 7 f (-1)) 8 f 0) 0 18 x 7 f = -1 := by rw [se_r (by decide), se_r (by decide), se_s]
    have e6 : ∀ i, oz_se (oz_se (oz_se sk 7 f (-1)) 8 f 0) 0 18 x 6 i = sk 6 i := fun i => by rw [se_r (by decide), se_r (by decide), se_r (by decide)]
    rw [e6, e6]
    intro q1 q2 q3
    have ea : a ≠ f := fun z => q3 (by rw [z]; exact e7f)
    have eb : b ≠ f := fun z => q3 (by rw [q2, z]; exact e7f)
    rw [e7 a ea] at q2 q3
    rw [e7 b eb] at q2
    exact h6 a b ha hb q1 q2 q3
  · rw [se_s, se_r (by decide), se_s]
  · rw [se_s]
    rcases hch with z | ⟨g, g1, g2, g3, g4, g5⟩
    · exact Or.inl z
    · refine Or.inr ⟨g, g1, g3, ?_, ?_⟩
      · rw [se_r (by decide), se_r (by decide), se_i g2]; exact g4
      · rw [se_r (by decide), se_i g2, se_r (by decide)]; exact g5
/-- where the page doesn't come, the choice stays -/
theorem Rel.chf_stay (R : Rel n c nl r t h sk sm) {f : Nat} (hf : f < 12) (h0 : cm sk f = 0) : chf sk f = sm 0 17 ∧ sk 0 18 ≠ nI f := by
  obtain ⟨e1, e2⟩ := R.2.2.2.2.2.2
  have hne : sk 0 18 ≠ nI f := by
    intro q
    rcases e2 with z | ⟨g, g1, g2, g3, g4⟩
    · rw [z] at q; exact pz_m1' (by omega) q
    · have : g = f := (pz_eq (by omega) (by omega)).mp (by rw [← g2, q])
      subst this
      rw [cm_of g3 g4] at h0
      exact absurd h0 (by decide)
  refine ⟨?_, hne⟩
  unfold chf
  rw [if_neg hne, e1]
/-- .. so the reference has it right without looking -/
theorem Rel.drop_still (R : Rel n c nl r t h sk sm) {f : Nat} (hf : f < 12) (h0 : cm sk f = 0) : Rel n c nl r t h (dp sk f) (oz_se sm 4 f (-1)) := by
  have := R.drop hf
  rw [(R.chf_stay hf h0).1, se_self] at this
  exact this
/-- a loan of an empty frame ends -/
theorem Rel.unlend (R : Rel n c nl r t h sk sm) {j g : Nat} (hj : j < nl) (hg : g < 12) (hs : sm 7 g = nI j) (he : sk 7 g = -1) : Rel n c nl r t h (oz_se (oz_se sk 13 j 0) 6 g (sk 5 g)) (oz_se sm 7 g (-1)) := by
  have hnl := R.1.1.2.2
  obtain ⟨h1, h2, h3, h4, h5, h6, h7⟩ := R
  refine ⟨by simpa (disch := decide) only [se_r, R1] using h1, fun p hp => ?_, fun f hf => ?_, fun i hi => ?_, fun i hi => ?_, fun a b ha hb => ?_, by simpa (disch := decide) only [se_r, R7] using h7⟩
  · simpa (disch := decide) only [se_r] using h2 p hp
  · by_cases e : f = g
    · subst e
      obtain ⟨⟨a1, a2, a3⟩, b1, b2, b3, b4, b5, b6⟩ := h3 f hf
      refine ⟨⟨?_, ?_, ?_⟩, ?_, ?_, ⟨?_, ?_⟩, ?_, Or.inl ⟨se_s, ?_⟩, fun _ => ?_⟩
      · simp (disch := decide) only [se_r]; exact a1
      · simp (disch := decide) only [se_r]; exact a2
      · simp (disch := decide) only [se_r]; exact a3
      · simp (disch := decide) only [se_r]; exact b1
      · simp (disch := decide) only [se_r]; exact b2
      · simp (disch := decide) only [se_r]; exact b3.1
      · simp (disch := decide) only [se_r]; exact b3.2
      · simp (disch := decide) only [se_r]; exact b4
      · rw [se_s, se_r (by decide), se_r (by decide)]
      · simp (disch := decide) only [se_r]; exact he
    · simpa (disch := first | decide | assumption) only [se_r, se_i, R3l] using h3 f hf
  · obtain ⟨g0, p, q, a1, a2, a3, a4, a5, a6, a7, a8⟩ := h4 i hi
    refine ⟨g0, p, q, a1, a2, a3, a4, ?_, ?_, ?_, ?_⟩
    · rw [se_r (by decide), se_r (by decide)]; exact a5
    · rw [se_r (by decide), se_r (by decide)]; exact a6
    · rw [se_r (by decide), se_r (by decide)]; exact a7
    · rw [se_r (by decide)]
      by_cases e : i = j
      · subst e
        refine Or.inr ⟨se_s, ?_⟩
        by_cases e2 : g0 = g
        · rw [e2, se_s]; exact pz_m1' (by omega)
        · rw [se_i e2]
          rcases a8 with ⟨d1, d2⟩ | ⟨d1, d2⟩
          · obtain ⟨-, -, -, -, -, hl, -⟩ := h3 g hg
            rcases hl with ⟨b1, b2⟩ | ⟨j2, b1, b2, b3, b4, b5⟩
            · rw [hs] at b1; exact absurd b1 (pz_m1 (by omega))
            · have : j2 = i := (pz_eq (by omega) (by omega)).mp (by rw [← b2, hs])
              subst this
              rw [a5] at b3
              exact absurd ((pz_eq (by omega) (by omega)).mp b3) e2
          · exact d2
      · rw [se_i e]
        by_cases e2 : g0 = g
        · rw [e2, se_s]
          rcases a8 with ⟨d1, d2⟩ | ⟨d1, d2⟩
          · rw [e2, hs] at d2
            exact absurd ((pz_eq (by omega) (by omega)).mp d2).symm e
          · exact Or.inr ⟨d1, pz_m1' (by omega)⟩
        · rw [se_i e2]; exact a8
  · simpa (disch := decide) only [se_r] using h5 i hi
  · have e7 : ∀ i, oz_se (oz_se sk 13 j 0) 6 g (sk 5 g) 7 i = sk 7 i := fun i => by rw [se_r (by decide), se_r (by decide)]
    rw [e7, e7]
    intro q1 q2 q3
    have ea : a ≠ g := fun z => q3 (by rw [z]; exact he)
    have eb : b ≠ g := fun z => q3 (by rw [q2, z]; exact he)
    rw [se_i ea, se_i eb, se_r (by decide), se_r (by decide)] at q1
    exact h6 a b ha hb q1 q2 q3
def lnk (s : ST) (f nl : Nat) (p q : Int32) : ST := oz_se (oz_se (oz_se (oz_se (oz_se (oz_se s 6 f p) 10 nl (nI f)) 11 nl q) 12 nl p) 13 nl 1) 0 14 (nI (nl + 1))
def lnm (s : ST) (f nl : Nat) (p q : Int32) : ST := oz_se (oz_se (oz_se (oz_se (oz_se (oz_se s 13 nl (nI f)) 14 nl q) 15 nl p) 16 nl 0) 7 f (nI nl)) 0 11 (nI (nl + 1))
/-- an empty frame is lent -/
theorem Rel.lendit (R : Rel n c nl r t h sk sm) {f p q : Nat} (hf : f < 12) (hp : p < 5) (hq : q < 5) (hpq : q ≠ p) (ho : sk 5 f = nI q) (hs : sm 7 f = -1) (he : sk 7 f = -1) (hn : nl < 60) : Rel n c (nl + 1) r t h (lnk sk f nl (nI p) (nI q)) (lnm sm f nl (nI p) (nI q)) := by
  obtain ⟨⟨c1, c2, c3, c4, c5⟩, h2, h3, h4, h5, h6, h7⟩ := R
  unfold lnk lnm
  refine ⟨⟨⟨se_s, se_s, by omega⟩, ?_, ?_, ?_, ?_⟩, fun p hp => ?_, fun g hg => ?_, fun i hi => ?_, fun i hi => ?_, fun a b ha hb => ?_, ?_⟩
  · rw [se_i (by decide), se_i (by decide)]; simpa (disch := decide) only [se_r] using c2
  · rw [se_i (by decide), se_i (by decide)]; simpa (disch := decide) only [se_r] using c3
  · rw [se_i (by decide), se_i (by decide)]; simpa (disch := decide) only [se_r] using c4
  · rw [se_i (by decide)]; simpa (disch := decide) only [se_r] using c5
  · simpa (disch := decide) only [se_r] using h2 p hp
  · obtain ⟨⟨a1, a2, a3⟩, b1, b2, b3, b4, b5, b6⟩ := h3 g hg
    refine ⟨⟨?_, ?_, ?_⟩, ?_, ?_, ⟨?_, ?_⟩, ?_, ?_, ?_⟩
    · simp (disch := decide) only [se_r]; exact a1
    · simp (disch := decide) only [se_r]; exact a2
    · simp (disch := decide) only [se_r]; exact a3
    · simp (disch := decide) only [se_r]; exact b1
    · simp (disch := decide) only [se_r]; exact b2
    · simp (disch := decide) only [se_r]; exact b3.1
    · simp (disch := decide) only [se_r]; exact b3.2
    · simp (disch := decide) only [se_r]; exact b4
    · by_cases e : g = f
      · subst e
        refine Or.inr ⟨nl, by omega, ?_, ?_, ?_, ?_⟩
        · rw [se_r (by decide), se_s]
        · simp (disch := decide) only [se_r, se_s]
        · simp (disch := decide) only [se_r, se_s]
        · simp (disch := decide) only [se_r, se_s]; exact ho
      · rcases b5 with ⟨d1, d2⟩ | ⟨j, d1, d2, d3, d4, d5⟩
        · refine Or.inl ⟨?_, ?_⟩
          · rw [se_r (by decide), se_i e]; simpa (disch := decide) only [se_r] using d1
          · simpa (disch := first | decide | assumption) only [se_r, se_i] using d2
        · have hj : j ≠ nl := by omega
          refine Or.inr ⟨j, by omega, ?_, ?_, ?_, ?_⟩
          · rw [se_r (by decide), se_i e]; simpa (disch := decide) only [se_r] using d2
          · simpa (disch := first | decide | assumption) only [se_r, se_i] using d3
          · simpa (disch := first | decide | assumption) only [se_r, se_i] using d4
          · simpa (disch := first | decide | assumption) only [se_r, se_i] using d5
    · simp (disch := decide) only [se_r]; exact b6
  · by_cases e : i = nl
    · subst e
      refine ⟨f, q, p, hf, hq, hp, hpq, ?_, ?_, ?_, Or.inl ⟨?_, ?_⟩⟩
      · simp (disch := decide) only [se_r, se_s]
      · simp (disch := decide) only [se_r, se_s]
      · simp (disch := decide) only [se_r, se_s]
      · simp (disch := decide) only [se_r, se_s]
      · rw [se_r (by decide), se_s]
    · obtain ⟨g0, p0, q0, a1, a2, a3, a4, a5, a6, a7, a8⟩ := h4 i (by omega)
      refine ⟨g0, p0, q0, a1, a2, a3, a4, ?_, ?_, ?_, ?_⟩
      · simpa (disch := first | decide | assumption) only [se_r, se_i] using a5
      · simpa (disch := first | decide | assumption) only [se_r, se_i] using a6
      · simpa (disch := first | decide | assumption) only [se_r, se_i] using a7
      · have e13 : oz_se (oz_se (oz_se (oz_se (oz_se (oz_se sk 6 f (nI p)) 10 nl (nI f)) 11 nl (nI q)) 12 nl (nI p)) 13 nl 1) 0 14 (nI (nl + 1)) 13 i = sk 13 i := by
          rw [se_r (by decide), se_i e]; simp (disch := decide) only [se_r]
        rw [e13, se_r (by decide)]
        by_cases e2 : g0 = f
        · rw [e2, se_s]
          rcases a8 with ⟨d1, d2⟩ | ⟨d1, d2⟩
          · rw [e2, hs] at d2
            exact absurd d2 (pz_m1' (by omega))
          · exact Or.inr ⟨d1, fun z => e ((pz_eq (by omega) (by omega)).mp z).symm⟩
        · rw [se_i e2]; simpa (disch := decide) only [se_r] using a8
  · obtain ⟨⟨a1, a2, a3, a4⟩, a5⟩ := h5 i hi
    by_cases e : i = nl
    · subst e
      refine ⟨⟨?_, ?_, ?_, ?_⟩, fun z => by omega⟩
      · simp (disch := decide) only [se_r, se_s]
      · simp (disch := decide) only [se_r, se_s]
      · simp (disch := decide) only [se_r, se_s]
      · simp (disch := decide) only [se_r, se_s]; exact a5 (Nat.le_refl _)
    · refine ⟨⟨?_, ?_, ?_, ?_⟩, fun z => ?_⟩
      · simpa (disch := first | decide | assumption) only [se_r, se_i] using a1
      · simpa (disch := first | decide | assumption) only [se_r, se_i] using a2
      · simpa (disch := first | decide | assumption) only [se_r, se_i] using a3
      · simpa (disch := first | decide | assumption) only [se_r, se_i] using a4
      · simp (disch := decide) only [se_r]; exact a5 (by omega)
  · have e7 : ∀ i, oz_se (oz_se (oz_se (oz_se (oz_se (oz_se sk 6 f (nI p)) 10 nl (nI f)) 11 nl (nI q)) 12 nl (nI p)) 13 nl 1) 0 14 (nI (nl + 1)) 7 i = sk 7 i := fun i => by simp (disch := decide) only [se_r]
    have e6 : ∀ i, i ≠ f → oz_se (oz_se (oz_se (oz_se (oz_se (oz_se sk 6 f (nI p)) 10 nl (nI f)) 11 nl (nI q)) 12 nl (nI p)) 13 nl 1) 0 14 (nI (nl + 1)) 6 i = sk 6 i := fun i hi => by simp (disch := first | decide | assumption) only [se_r, se_i]
    rw [e7, e7]
    intro q1 q2 q3
    have ea : a ≠ f := fun z => q3 (by rw [z]; exact he)
    have eb : b ≠ f := fun z => q3 (by rw [q2, z]; exact he)
    rw [e6 a ea, e6 b eb] at q1
    exact h6 a b ha hb q1 q2 q3
  · unfold R7 at h7 ⊢
    rw [se_i (by decide), se_i (by decide)]
    simpa (disch := decide) only [se_r] using h7
/-- a page begins to come in an empty frame -/
theorem Rel.setpage (R : Rel n c nl r t h sk sm) {f p v : Nat} (hf : f < 12) (hp : p < 5) (hv : v < 8) (ho : sk 6 f = nI p) (he : sk 7 f = -1) (hu : ∀ i, i < 12 → i ≠ f → ¬ (sk 6 i = nI p ∧ sk 7 i = nI v)) : Rel n c nl r t h (oz_se (oz_se sk 7 f (nI v)) 8 f 0) (oz_se (oz_se sm 4 f (nI v)) 5 f 0) := by
  have hown : sk 5 f ≠ -1 := by
    rcases R.hol hf with ⟨a1, a2⟩ | ⟨i, p', q, a1, a2, a3, a4, a5, a6, a7, a8⟩
    · rw [← a2, ho]; exact pz_m1 (by omega)
    · rw [a6]; exact pz_m1 (by omega)
  obtain ⟨h1, h2, h3, h4, h5, h6, h7⟩ := R
  have e7f : oz_se (oz_se sk 7 f (nI v)) 8 f 0 7 f = nI v := by rw [se_r (by decide), se_s]
  have e7 : ∀ i, i ≠ f → oz_se (oz_se sk 7 f (nI v)) 8 f 0 7 i = sk 7 i := fun i hi => by rw [se_r (by decide), se_i hi]
  have e6 : ∀ i, oz_se (oz_se sk 7 f (nI v)) 8 f 0 6 i = sk 6 i := fun i => by rw [se_r (by decide), se_r (by decide)]
  refine ⟨by simpa (disch := decide) only [se_r, R1] using h1, fun p hp => ?_, fun g hg => ?_, fun i hi => ?_, fun i hi => ?_, fun a b ha hb => ?_, ?_⟩
  · simpa (disch := decide) only [se_r] using h2 p hp
  · by_cases e : g = f
    · subst e
      obtain ⟨⟨a1, a2, a3⟩, b1, b2, b3, b4, b5, b6⟩ := h3 g hg
      refine ⟨⟨?_, ?_, ?_⟩, ?_, Or.inr ⟨v, hv, e7f⟩, ⟨?_, Or.inl se_s⟩, ?_, ?_, ?_⟩
      · simp (disch := decide) only [se_r]; exact a1
      · rw [e7f, se_r (by decide), se_s]
      · simp (disch := decide) only [se_r]; exact a3
      · simp (disch := decide) only [se_r]; exact b1
      · rw [e7f, if_neg (pz_m1 (by omega)), se_s, se_s]
      · simp (disch := decide) only [se_r]; exact b4
      · simpa (disch := decide) only [se_r, R3l] using b5
      · simp (disch := decide) only [se_r]
        exact fun z => absurd z hown
    · simpa (disch := first | decide | assumption) only [se_r, se_i, R3l] using h3 g hg
  · simpa (disch := decide) only [se_r] using h4 i hi
  · simpa (disch := decide) only [se_r] using h5 i hi
  · rw [e6, e6]
    intro q1 q2 q3
    by_cases ea : a = f
    · by_cases eb : b = f
      · rw [ea, eb]
      · rw [ea, e7f, e7 b eb] at q2
        exact absurd ⟨by rw [← q1, ea]; exact ho, q2.symm⟩ (hu b hb eb)
    · by_cases eb : b = f
      · rw [eb, e7f, e7 a ea] at q2
        exact absurd ⟨by rw [q1, eb]; exact ho, q2⟩ (hu a ha ea)
      · rw [e7 a ea] at q2 q3
        rw [e7 b eb] at q2
        exact h6 a b ha hb q1 q2 q3
  · obtain ⟨d1, d2⟩ := h7
    refine ⟨by simpa (disch := decide) only [se_r] using d1, ?_⟩
    rw [se_r (by decide), se_r (by decide)]
    rcases d2 with z | ⟨g, g1, g2, g3, g4⟩
    · exact Or.inl z
    · have eg : g ≠ f := fun z => g3 (by rw [z]; exact he)
      exact Or.inr ⟨g, g1, g2, by rw [e7 g eg]; exact g3, by rw [se_i eg, se_r (by decide)]; exact g4⟩
theorem Rel.settouch (R : Rel n c nl r t h sk sm) {f : Nat} (hf : f < 12) : Rel n c nl r t h (oz_se sk 9 f (nI t)) (oz_se sm 6 f (nI t)) := by
  obtain ⟨h1, h2, h3, h4, h5, h6, h7⟩ := R
  refine ⟨by simpa (disch := decide) only [se_r, R1] using h1, fun p hp => ?_, fun g hg => ?_, fun i hi => ?_, fun i hi => ?_, fun a b ha hb => ?_, by simpa (disch := decide) only [se_r, R7] using h7⟩
  · simpa (disch := decide) only [se_r] using h2 p hp
  · by_cases e : g = f
    · subst e
      obtain ⟨⟨a1, a2, a3⟩, b1, b2, b3, b4, b5, b6⟩ := h3 g hg
      refine ⟨⟨?_, ?_, ?_⟩, ?_, ?_, ⟨?_, ?_⟩, ⟨t, Nat.le_refl t, se_s⟩, ?_, ?_⟩
      · simp (disch := decide) only [se_r]; exact a1
      · simp (disch := decide) only [se_r]; exact a2
      · rw [se_s, se_s]
      · simp (disch := decide) only [se_r]; exact b1
      · simp (disch := decide) only [se_r]; exact b2
      · simp (disch := decide) only [se_r]; exact b3.1
      · simp (disch := decide) only [se_r]; exact b3.2
      · simpa (disch := decide) only [se_r, R3l] using b5
      · simp (disch := decide) only [se_r]; exact b6
    · simpa (disch := first | decide | assumption) only [se_r, se_i, R3l] using h3 g hg
  · simpa (disch := decide) only [se_r] using h4 i hi
  · simpa (disch := decide) only [se_r] using h5 i hi
  · simpa (disch := decide) only [se_r] using h6 a b ha hb
/-- a page is there (no page is chosen) -/
theorem Rel.arrive (R : Rel n c nl r t h sk sm) {f : Nat} (hf : f < 12) (hc : sk 0 18 = -1) (hp : sk 7 f ≠ -1) : Rel n c nl r t h (oz_se sk 8 f 1) (oz_se sm 5 f 1) := by
  obtain ⟨h1, h2, h3, h4, h5, h6, h7⟩ := R
  refine ⟨by simpa (disch := decide) only [se_r, R1] using h1, fun p hp => ?_, fun g hg => ?_, fun i hi => ?_, fun i hi => ?_, fun a b ha hb => ?_, by simpa (disch := decide) only [se_r] using h7.1, Or.inl (by rw [se_r (by decide)]; exact hc)⟩
  · simpa (disch := decide) only [se_r] using h2 p hp
  · by_cases e : g = f
    · subst e
      obtain ⟨⟨a1, a2, a3⟩, b1, b2, b3, b4, b5, b6⟩ := h3 g hg
      refine ⟨⟨?_, ?_, ?_⟩, ?_, ?_, ⟨?_, Or.inr se_s⟩, ?_, ?_, ?_⟩
      · simp (disch := decide) only [se_r]; exact a1
      · simp (disch := decide) only [se_r]; exact a2
      · simp (disch := decide) only [se_r]; exact a3
      · simp (disch := decide) only [se_r]; exact b1
      · simp (disch := decide) only [se_r]; exact b2
      · rw [se_s, se_s, se_r (by decide), if_neg hp]
      · simp (disch := decide) only [se_r]; exact b4
      · simpa (disch := decide) only [se_r, R3l] using b5
      · simp (disch := decide) only [se_r]; exact b6
    · simpa (disch := first | decide | assumption) only [se_r, se_i, R3l] using h3 g hg
  · simpa (disch := decide) only [se_r] using h4 i hi
  · simpa (disch := decide) only [se_r] using h5 i hi
  · simpa (disch := decide) only [se_r] using h6 a b ha hb
end PT
