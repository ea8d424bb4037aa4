/-! THE TWO STATES SIDE BY SIDE. sk: AlmsKernel (rows 1 wages 2 purses 3 states 4 faults 5 owners 6 holders 7 pages 8 there 9 touched 10 loan frames 11 lenders 12 borrowers 13 lasting 14 interests; numbers 0.14 loans 0.15 rate 0.16 tick 0.17 head 0.18 chosen). sm: the reference (rows 3 owners 4 pages 5 isThere 6 touched 7 lentBy 8 wages 9 purses 10 states 11 faults 13 loan frames 14 lenders 15 borrowers 16 interests; numbers 0.0 tick 0.1 rate 0.11 loans 0.16 head 0.17 chosen 0.18 thrown). -/
theorem pz_in {k n : Nat} (h : k < n) (hn : n ≤ 60) : oz_in (nI k) n = true := by
  unfold oz_in
  rw [nI_toInt (by omega)]
  simp
  exact h
theorem pz_gd {k n : Nat} {o : Option Res} (h : k < n) (hn : n ≤ 60) : gd (oz_in (nI k) n) o = o := by
  rw [pz_in h hn]; rfl
theorem pz_tn {k : Nat} (h : k < 100000) : (nI k).toNatClampNeg = k := nI_clamp (by omega)
theorem pz_le5 {k : Nat} (h : k < 100000) : ((5 : Int32) ≤ nI k) ↔ 5 ≤ k := nI_leI (a := 5) (b := k) (by omega) (by omega)
theorem pz_le8 {k : Nat} (h : k < 100000) : ((8 : Int32) ≤ nI k) ↔ 8 ≤ k := nI_leI (a := 8) (b := k) (by omega) (by omega)
theorem pz_le12 {k : Nat} (h : k < 100000) : ((12 : Int32) ≤ nI k) ↔ 12 ≤ k := nI_leI (a := 12) (b := k) (by omega) (by omega)
theorem pz_le40 {k : Nat} (h : k < 100000) : ((40 : Int32) ≤ nI k) ↔ 40 ≤ k := nI_leI (a := 40) (b := k) (by omega) (by omega)
theorem pz_le60 {k : Nat} (h : k < 100000) : ((60 : Int32) ≤ nI k) ↔ 60 ≤ k := nI_leI (a := 60) (b := k) (by omega) (by omega)
theorem pz_le {a b : Nat} (ha : a < 2000000000) (hb : b < 2000000000) : (nI a ≤ nI b) ↔ a ≤ b := nI_leI (by omega) (by omega)
theorem pz_lt {a b : Nat} (ha : a < 2000000000) (hb : b < 2000000000) : (nI a < nI b) ↔ a < b := nI_ltI (by omega) (by omega)
theorem pz_eq {a b : Nat} (ha : a < 2000000000) (hb : b < 2000000000) : (nI a = nI b) ↔ a = b := nI_eq (by omega) (by omega)
theorem pz_neg {k : Nat} (h : k < 2000000000) : ¬ nI k < 0 := nI_pos (by omega)
theorem pz_m1 {k : Nat} (h : k < 2000000000) : ¬ nI k = -1 := fun e => by
  have := congrArg Int32.toInt e
  rw [nI_toInt (by omega)] at this
  have h2 : (-1 : Int32).toInt = -1 := rfl
  omega
theorem pz_m1' {k : Nat} (h : k < 2000000000) : ¬ (-1 : Int32) = nI k := fun e => pz_m1 h e.symm
theorem pz_1 (k : Nat) : nI k + 1 = nI (k + 1) := nI_1 k
theorem pz_pr (k : Nat) : nI (k + 1) + (-1) = nI k := pk_m1 k
theorem pz_0 (x : Int32) : x + 0 = x := Int32.add_zero x
theorem pz_l0 : (0 : Int32) = nI 0 := rfl
theorem pz_bnd {v : Int32} {s : ST} {f : Int32 → ST → Option Res} : bnd (some (0, v, s)) f = f v s := rfl
theorem pz_stp {x : ST} {f : ST → Option Res} : stp x f = f x := rfl
/-- a page that is coming: 1, else 0 -/
def cm (sk : ST) (f : Nat) : Int32 := if sk 7 f = -1 then 0 else if sk 8 f = 0 then 1 else 0
/-- the age of a frame -/
def ag (sk : ST) (f : Nat) : Int32 := if sk 8 f = 0 then -1 else sk 0 16 - sk 9 f
def R1 (c : Int32) (nl r t h : Nat) (sk sm : ST) : Prop :=
  (sk 0 14 = nI nl ∧ sm 0 11 = nI nl ∧ nl ≤ 60) ∧ (sk 0 15 = nI r ∧ sm 0 1 = nI r ∧ r ≤ 9) ∧ (sk 0 16 = nI t ∧ sm 0 0 = nI t ∧ t ≤ 50000) ∧ (sk 0 17 = nI h ∧ sm 0 16 = nI h ∧ h < 40) ∧ sm 0 18 = c
def R2 (B : Nat) (sk sm : ST) : Prop := ∀ p, p < 5 → (sk 1 p = sm 8 p ∧ sk 2 p = sm 9 p ∧ sk 3 p = sm 10 p ∧ sk 4 p = sm 11 p) ∧ (∃ w, w ≤ 9 ∧ sk 1 p = nI w) ∧ ∃ u, u ≤ B ∧ sk 2 p = nI u
/-- a frame: not lent, or lent by the loan j -/
def R3l (nl : Nat) (sk sm : ST) (f : Nat) : Prop := (sm 7 f = -1 ∧ sk 6 f = sk 5 f) ∨ ∃ j, j < nl ∧ sm 7 f = nI j ∧ sk 10 j = nI f ∧ sk 6 f = sk 12 j ∧ sk 5 f = sk 11 j
def R3 (nl t : Nat) (sk sm : ST) : Prop := ∀ f, f < 12 → (sk 5 f = sm 3 f ∧ sk 7 f = sm 4 f ∧ sk 9 f = sm 6 f) ∧ (sk 5 f = -1 ∨ ∃ p, p < 5 ∧ sk 5 f = nI p) ∧ (sk 7 f = -1 ∨ ∃ v, v < 8 ∧ sk 7 f = nI v) ∧ (sk 8 f = (if sk 7 f = -1 then 0 else sm 5 f) ∧ (sm 5 f = 0 ∨ sm 5 f = 1)) ∧ (∃ u, u ≤ t ∧ sk 9 f = nI u) ∧ R3l nl sk sm f ∧ (sk 5 f = -1 → sk 7 f = -1)
def R4 (nl : Nat) (sk sm : ST) : Prop := ∀ j, j < nl → ∃ g p q, g < 12 ∧ p < 5 ∧ q < 5 ∧ p ≠ q ∧ sk 10 j = nI g ∧ sk 11 j = nI p ∧ sk 12 j = nI q ∧ ((sk 13 j = 1 ∧ sm 7 g = nI j) ∨ (sk 13 j = 0 ∧ sm 7 g ≠ nI j))
def R5 (nl : Nat) (sk sm : ST) : Prop := ∀ j, j < 60 → (sk 10 j = sm 13 j ∧ sk 11 j = sm 14 j ∧ sk 12 j = sm 15 j ∧ sk 14 j = sm 16 j) ∧ (nl ≤ j → sk 14 j = 0)
def R6 (sk : ST) : Prop := ∀ f g, f < 12 → g < 12 → sk 6 f = sk 6 g → sk 7 f = sk 7 g → sk 7 f ≠ -1 → f = g
def R7 (sk sm : ST) : Prop := sk 0 18 = sm 0 17 ∧ (sk 0 18 = -1 ∨ ∃ f, f < 12 ∧ sk 0 18 = nI f ∧ sk 7 f ≠ -1 ∧ sk 8 f = 0)
def Rel (n : Nat) (c : Int32) (nl r t h : Nat) (sk sm : ST) : Prop := R1 c nl r t h sk sm ∧ R2 n sk sm ∧ R3 nl t sk sm ∧ R4 nl sk sm ∧ R5 nl sk sm ∧ R6 sk ∧ R7 sk sm
section PZ
variable {n nl r t h : Nat} {c : Int32} {sk sm : ST}
/-- only 'thrown' is another -/
theorem Rel.thr (R : Rel n c nl r t h sk sm) (v : Int32) : Rel n v nl r t h sk (oz_se sm 0 18 v) := by
  obtain ⟨⟨h1, h2, h3, h4, h5⟩, h6, h7, h8, h9, h10, h11⟩ := R
  have e : ∀ a b, ¬ (a = 0 ∧ b = 18) → oz_se sm 0 18 v a b = sm a b := fun a b hab => by rw [oz_se_at, if_neg hab]
  have e0 : oz_se sm 0 18 v 0 18 = v := by rw [oz_se_at, if_pos ⟨rfl, rfl⟩]
  refine ⟨⟨?_, ?_, ?_, ?_, e0⟩, ?_, ?_, ?_, ?_, h10, ?_⟩
  · rw [e 0 11 (by omega)]; exact h1
  · rw [e 0 1 (by omega)]; exact h2
  · rw [e 0 0 (by omega)]; exact h3
  · rw [e 0 16 (by omega)]; exact h4
  · intro p hp
    rw [e 8 p (by omega), e 9 p (by omega), e 10 p (by omega), e 11 p (by omega)]
    exact h6 p hp
  · intro f hf
    have := h7 f hf
    unfold R3l at this ⊢
    rw [e 3 f (by omega), e 4 f (by omega), e 5 f (by omega), e 6 f (by omega), e 7 f (by omega)]
    exact this
  · intro j hj
    obtain ⟨g, p, q, a1, a2, a3, a4, a5, a6, a7, a8⟩ := h8 j hj
    exact ⟨g, p, q, a1, a2, a3, a4, a5, a6, a7, by rw [e 7 g (by omega)]; exact a8⟩
  · intro j hj
    rw [e 13 j (by omega), e 14 j (by omega), e 15 j (by omega), e 16 j (by omega)]
    exact h9 j hj
  · unfold R7
    rw [e 0 17 (by omega)]
    exact h11
theorem Rel.mono (R : Rel n c nl r t h sk sm) {m : Nat} (hm : n ≤ m) : Rel m c nl r t h sk sm := by
  obtain ⟨h1, h6, h7⟩ := R
  refine ⟨h1, fun p hp => ?_, h7⟩
  obtain ⟨a, b, u, hu, e⟩ := h6 p hp
  exact ⟨a, b, u, by omega, e⟩
/-! the small readers -/
theorem F0_isFrame_in {k : Nat} (hk : k < 12) (s : ST) : FX0_isFrame (nI k) s = some (0, 1, s) := by
  unfold FX0_isFrame
  rw [if_neg (pz_neg (by omega)), if_neg (by rw [pz_le12 (by omega)]; omega)]
theorem F0_isFrame_m1 (s : ST) : FX0_isFrame (-1) s = some (0, 0, s) := rfl
theorem F0_isProcess_in {k : Nat} (hk : k < 5) (s : ST) : FX0_isProcess (nI k) s = some (0, 1, s) := by
  unfold FX0_isProcess
  rw [if_neg (pz_neg (by omega)), if_neg (by rw [pz_le5 (by omega)]; omega)]
theorem F0_isProcess_m1 (s : ST) : FX0_isProcess (-1) s = some (0, 0, s) := rfl
theorem F0_isComing_in {k : Nat} (hk : k < 12) (s : ST) : FX0_isComing (nI k) s = some (0, cm s k, s) := by
  unfold FX0_isComing cm
  rw [F0_isFrame_in hk, pz_bnd, if_neg (by decide), pz_gd hk (by omega), pz_tn (by omega)]
  by_cases h1 : s 7 k = -1
  · rw [if_pos h1, if_pos h1]
  · rw [if_neg h1, if_neg h1, pz_gd hk (by omega)]
    by_cases h2 : s 8 k = 0
    · rw [if_pos h2, if_pos h2]
    · rw [if_neg h2, if_neg h2]
theorem F0_ageOf_in {k : Nat} (hk : k < 12) (s : ST) : FX0_ageOf (nI k) s = some (0, ag s k, s) := by
  unfold FX0_ageOf ag
  rw [pz_gd hk (by omega), pz_tn (by omega), pz_gd hk (by omega)]
  by_cases h2 : s 8 k = 0
  · rw [if_pos h2, if_pos h2]
  · rw [if_neg h2, if_neg h2]
theorem F0_trackOf_in {k : Nat} (hk : k < 12) (s : ST) : FX0_trackOf (nI k) s = some (0, 8 * s 6 k + s 7 k, s) := by
  unfold FX0_trackOf
  rw [pz_gd hk (by omega), pz_tn (by omega), pz_gd hk (by omega)]
theorem F1_isIn_val (a lo hi : Int32) (s : ST) : FX1_isIn a lo hi s = some (0, if a < lo then 0 else if hi < a then 0 else 1, s) := by
  unfold FX1_isIn
  by_cases h1 : a < lo
  · rw [if_pos h1, if_pos h1]
  · rw [if_neg h1, if_neg h1]
    by_cases h2 : hi < a
    · rw [if_pos h2, if_pos h2]
    · rw [if_neg h2, if_neg h2]
theorem pz_bit01 {p : Prop} [Decidable p] {q : Prop} [Decidable q] : oz_bit (if p then 0 else if q then 0 else 1) = true := by
  by_cases hp : p
  · rw [if_pos hp]; rfl
  · rw [if_neg hp]
    by_cases hq : q
    · rw [if_pos hq]; rfl
    · rw [if_neg hq]; rfl
theorem F1_isProcess_val (a : Int32) (s : ST) : FX1_isProcess a s = some (0, if a < 0 then 0 else if 4 < a then 0 else 1, s) := by
  unfold FX1_isProcess
  rw [F1_isIn_val, pz_bnd, pz_bit01]; rfl
theorem F1_isFrame_val (a : Int32) (s : ST) : FX1_isFrame a s = some (0, if a < 0 then 0 else if 11 < a then 0 else 1, s) := by
  unfold FX1_isFrame
  rw [F1_isIn_val, pz_bnd, pz_bit01]; rfl
theorem F1_isLoan_val (a : Int32) (s : ST) : FX1_isLoan a s = some (0, if a < 0 then 0 else if s 0 11 - 1 < a then 0 else 1, s) := by
  unfold FX1_isLoan
  rw [F1_isIn_val, pz_bnd, pz_bit01]; rfl
theorem F1_goes_val (a : Int32) (s : ST) : FX1_goes a s = some (0, if a = 0 then 1 else 0, oz_se s 0 18 a) := by
  unfold FX1_goes
  rw [pz_stp]
  by_cases h1 : a = 0
  · rw [if_pos h1, if_pos h1]
  · rw [if_neg h1, if_neg h1]
/-! the reference's readers, in the words of the class's state -/
theorem Rel.f1_holderOf (R : Rel n c nl r t h sk sm) {f : Nat} (hf : f < 12) : FX1_holderOf (nI f) sm = some (0, sk 6 f, sm) := by
  obtain ⟨⟨⟨-, -, hnl⟩, -⟩, -, h3, -, h5, -⟩ := R
  obtain ⟨⟨e1, -, -⟩, -, -, -, -, hl, -⟩ := h3 f hf
  unfold FX1_holderOf
  rw [pz_gd hf (by omega), pz_tn (by omega), pz_gd hf (by omega)]
  rcases hl with ⟨a1, a2⟩ | ⟨j, a1, a2, a3, a4, a5⟩
  · rw [if_pos a1, a2, e1]
  · rw [a2, if_neg (pz_m1 (by omega)), pz_gd hf (by omega), pz_gd (n := 60) (by omega) (by omega), pz_tn (by omega), a4, (h5 j (by omega)).1.2.2.1]
theorem Rel.f1_isEmpty (R : Rel n c nl r t h sk sm) {f : Nat} (hf : f < 12) : FX1_isEmpty (nI f) sm = some (0, if sk 7 f = -1 then 1 else 0, sm) := by
  obtain ⟨-, -, h3, -⟩ := R
  obtain ⟨⟨-, e2, -⟩, -⟩ := h3 f hf
  unfold FX1_isEmpty
  rw [pz_gd hf (by omega), pz_tn (by omega), e2]
  by_cases h1 : sm 4 f = -1
  · rw [if_pos h1, if_pos h1]
  · rw [if_neg h1, if_neg h1]
theorem Rel.f1_isComing (R : Rel n c nl r t h sk sm) {f : Nat} (hf : f < 12) : FX1_isComing (nI f) sm = some (0, cm sk f, sm) := by
  obtain ⟨-, -, h3, -⟩ := R
  obtain ⟨⟨-, e2, -⟩, -, -, ⟨e4, -⟩, -⟩ := h3 f hf
  unfold FX1_isComing cm
  rw [pz_gd hf (by omega), pz_tn (by omega), pz_gd hf (by omega), e4, e2]
  by_cases h1 : sm 4 f = -1
  · rw [if_pos h1, if_pos h1]
  · rw [if_neg h1, if_neg h1, if_neg h1]
    by_cases h2 : sm 5 f = 0
    · rw [if_pos h2, if_pos h2]
    · rw [if_neg h2, if_neg h2]
theorem Rel.f1_hasPage (R : Rel n c nl r t h sk sm) {f : Nat} (hf : f < 12) : FX1_hasPage (nI f) sm = some (0, if sk 8 f = 0 then 0 else 1, sm) := by
  obtain ⟨-, -, h3, -⟩ := R
  obtain ⟨⟨-, e2, -⟩, -, -, ⟨e4, -⟩, -⟩ := h3 f hf
  unfold FX1_hasPage
  rw [pz_gd hf (by omega), pz_tn (by omega), pz_gd hf (by omega), e4, e2]
  by_cases h1 : sm 4 f = -1
  · rw [if_pos h1, if_pos h1, if_pos rfl]
  · rw [if_neg h1, if_neg h1]
    by_cases h2 : sm 5 f = 0
    · rw [if_pos h2, if_pos h2]
    · rw [if_neg h2, if_neg h2]
theorem Rel.f1_ageOf (R : Rel n c nl r t h sk sm) {f : Nat} (hf : f < 12) : FX1_ageOf (nI f) sm = some (0, ag sk f, sm) := by
  unfold FX1_ageOf ag
  rw [R.f1_hasPage hf, pz_bnd]
  obtain ⟨⟨-, -, ⟨e1, e2, -⟩, -⟩, -, h3, -⟩ := R
  obtain ⟨⟨-, -, e3⟩, -⟩ := h3 f hf
  by_cases h2 : sk 8 f = 0
  · rw [if_pos h2, if_pos h2, if_pos rfl]
  · rw [if_neg h2, if_neg h2, if_neg (by decide), pz_gd hf (by omega), pz_tn (by omega), e1, e2, e3]
theorem Rel.f1_trackOf (R : Rel n c nl r t h sk sm) {f : Nat} (hf : f < 12) : FX1_trackOf (nI f) sm = some (0, 8 * sk 6 f + sk 7 f, sm) := by
  have h1 := R.f1_holderOf hf
  obtain ⟨-, -, h3, -⟩ := R
  obtain ⟨⟨-, e2, -⟩, -⟩ := h3 f hf
  unfold FX1_trackOf
  simp only [h1, pz_bnd]
  rw [pz_gd hf (by omega), pz_tn (by omega), e2]
end PZ
