/-! ENDING A LOAN, AND A FAULT -/
theorem chf_se {s : ST} {r i f : Nat} {v : Int32} (hr : r ≠ 0 ∨ i ≠ 18) : chf (oz_se s r i v) f = chf s f := by
  unfold chf
  have e : oz_se s r i v 0 18 = s 0 18 := by rw [oz_se_at, if_neg (by omega)]
  rw [e]
theorem se_comm2 (st : ST) {r r2 i i2 : Nat} (v v2 : Int32) (h : r ≠ r2 ∨ i ≠ i2) : oz_se (oz_se st r i v) r2 i2 v2 = oz_se (oz_se st r2 i2 v2) r i v := by
  funext a b
  simp only [oz_se_at]
  by_cases h1 : a = r ∧ b = i
  · have h2 : ¬ (a = r2 ∧ b = i2) := fun z => by omega
    rw [if_neg h2, if_pos h1, if_pos h1]
  · rw [if_neg h1, if_neg h1]
theorem dp_se {s : ST} {r i f : Nat} {v : Int32} (h7 : r ≠ 7) (h8 : r ≠ 8) (hr : r ≠ 0 ∨ i ≠ 18) : dp (oz_se s r i v) f = oz_se (dp s f) r i v := by
  unfold dp
  rw [chf_se hr, se_comm2 s v (-1) (Or.inl h7), se_comm2 _ v 0 (Or.inl h8), se_comm2 _ v _ hr]
theorem dp_r {s : ST} {f a b : Nat} (h0 : a ≠ 0 ∨ b ≠ 18) (h7 : a ≠ 7 ∨ b ≠ f) (h8 : a ≠ 8 ∨ b ≠ f) : dp s f a b = s a b := by
  unfold dp
  rw [oz_se_at, if_neg (by omega), oz_se_at, if_neg (by omega), oz_se_at, if_neg (by omega)]
theorem dp_7 {s : ST} {f : Nat} : dp s f 7 f = -1 := by
  unfold dp
  rw [se_r (by decide), se_r (by decide), se_s]
/-- what a loan's end makes of the two states -/
def eK (s : ST) (j g : Nat) : ST := oz_se (oz_se (dp s g) 13 j 0) 6 g (s 5 g)
def eM (s : ST) (g : Nat) : ST := oz_se (oz_se s 4 g (-1)) 7 g (-1)
section PS
variable {n nl r t h : Nat} {c : Int32} {sk sm : ST}
theorem F0_endLoan_in {j g : Nat} (hj : j < 60) (hg : g < 12) (s : ST) (e : s 10 j = nI g) : FX0_endLoan (nI j) s = some (0, 0, eK s j g) := by
  unfold FX0_endLoan eK
  have e1 : oz_se s 13 j 0 10 j = nI g := by rw [se_r (by decide), e]
  rw [pz_gd hj (by omega), pz_stp, pz_gd hj (by omega), pz_tn (by omega), e1, F0_isFrame_in hg, pz_bnd, if_neg (show ¬ (1 : Int32) = 0 by decide), F0_dropPage_in hg, pz_bnd, pz_gd hg (by omega), pz_gd hg (by omega), pz_stp, pz_tn (by omega), dp_se (by decide) (by decide) (Or.inl (by decide)), se_r (by decide), dp_r (Or.inl (by decide)) (Or.inl (by decide)) (Or.inl (by decide))]
theorem F1_ends_in {j g : Nat} (hj : j < 60) (hg : g < 12) (s : ST) (e : s 13 j = nI g) : FX1_ends (nI j) s = some (0, 0, eM s g) := by
  unfold FX1_ends eM
  rw [pz_gd hj (by omega), pz_tn (by omega), e, pz_gd hg (by omega), pz_tn (by omega), pz_stp, pz_gd hg (by omega), pz_stp, se_comm s g g (-1) (-1) (by decide)]
theorem Rel.s_end (R : Rel n c nl r t h sk sm) {j g : Nat} (hj : j < nl) (hg : g < 12) (e : sk 10 j = nI g) (hs : sm 7 g = nI j) (h0 : cm sk g = 0) : FX0_endLoan (nI j) sk = some (0, 0, eK sk j g) ∧ FX1_ends (nI j) sm = some (0, 0, eM sm g) ∧ Rel n c nl r t h (eK sk j g) (eM sm g) := by
  have hnl := R.1.1.2.2
  have e1 := (R.2.2.2.2.1 j (by omega)).1.1
  refine ⟨F0_endLoan_in (by omega) hg sk e, F1_ends_in (by omega) hg sm (by rw [← e1, e]), ?_⟩
  have R1 := (R.drop_still hg h0).unlend hj hg (by rw [se_r (by decide)]; exact hs) dp_7
  unfold eK eM
  rw [dp_r (Or.inl (by decide)) (Or.inl (by decide)) (Or.inl (by decide))] at R1
  exact R1
theorem lnk_dp (s : ST) (f nl : Nat) (p q : Int32) : lnk (dp s f) f nl p q = dp (lnk s f nl p q) f := by
  unfold lnk
  rw [dp_se (by decide) (by decide) (Or.inr (by decide)), dp_se (by decide) (by decide) (Or.inl (by decide)), dp_se (by decide) (by decide) (Or.inl (by decide)), dp_se (by decide) (by decide) (Or.inl (by decide)), dp_se (by decide) (by decide) (Or.inl (by decide)), dp_se (by decide) (by decide) (Or.inl (by decide))]
theorem lnm_4 (s : ST) (f nl : Nat) (p q : Int32) : lnm (oz_se s 4 f (-1)) f nl p q = oz_se (lnm s f nl p q) 4 f (-1) := by
  unfold lnm
  rw [se_comm s (r := 4) (r2 := 13) _ _ _ _ (by decide), se_comm _ (r := 4) (r2 := 14) _ _ _ _ (by decide), se_comm _ (r := 4) (r2 := 15) _ _ _ _ (by decide), se_comm _ (r := 4) (r2 := 16) _ _ _ _ (by decide), se_comm _ (r := 4) (r2 := 7) _ _ _ _ (by decide), se_comm _ (r := 4) (r2 := 0) _ _ _ _ (by decide)]
/-- a frame is got for a fault of p at the page v: what its old page was plays no part -/
def Got (n : Nat) (c : Int32) (r t h p v : Nat) (sk sk2 sm2 : ST) (f : Nat) : Prop := f < 12 ∧ (∃ nl2, Rel n c nl2 r t h (dp sk2 f) (oz_se sm2 4 f (-1))) ∧ sk2 6 f = nI p ∧ sk2 0 18 ≠ nI f ∧ (∀ i, i < 12 → i ≠ f → ¬ (sk2 6 i = nI p ∧ sk2 7 i = nI v))
theorem cm_empty {s : ST} {f : Nat} (h : s 7 f = -1) : cm s f = 0 := by unfold cm; rw [if_pos h]
theorem cm_there {s : ST} {f : Nat} (h : s 8 f ≠ 0) : cm s f = 0 := by
  unfold cm
  by_cases q : s 7 f = -1
  · rw [if_pos q]
  · rw [if_neg q, if_neg h]
theorem Rel.got_here (R : Rel n c nl r t h sk sm) {p v f : Nat} (hf : f < 12) (ho : sk 6 f = nI p) (h0 : cm sk f = 0) (hu : ∀ i, i < 12 → ¬ (sk 6 i = nI p ∧ sk 7 i = nI v)) : Got n c r t h p v sk sk sm f :=
  ⟨hf, ⟨nl, R.drop_still hf h0⟩, ho, (R.chf_stay hf h0).2, fun i hi _ => hu i hi⟩
theorem Rel.s_old (R : Rel n c nl r t h sk sm) {p v : Nat} (hu : ∀ i, i < 12 → ¬ (sk 6 i = nI p ∧ sk 7 i = nI v)) : (∃ f, FX0_frameForFault_j28 (nI p) (-1) sk = some (0, nI f, sk) ∧ FX1_frameFor_j67 (nI p) (-1) sm = some (0, nI f, sm) ∧ Got n c r t h p v sk sk sm f) ∨ (FX0_frameForFault_j28 (nI p) (-1) sk = some (0, -1, sk) ∧ FX1_frameFor_j67 (nI p) (-1) sm = some (0, -1, sm)) := by
  obtain ⟨z, h1, h2, h3⟩ := R.s_oldest (nI p)
  unfold FX0_frameForFault_j28 FX1_frameFor_j67
  rw [if_pos rfl, if_pos rfl, h1, h2, pz_bnd, pz_bnd]
  rcases h3 with rfl | ⟨g, a1, rfl, a3, a4⟩
  · exact Or.inr ⟨rfl, rfl⟩
  · exact Or.inl ⟨g, rfl, rfl, R.got_here a1 a3 (cm_there a4) hu⟩
theorem Rel.s_fault (R : Rel n c nl r t h sk sm) (hB : n ≤ 1000000000) {p v : Nat} (hp : p < 5) (hu : ∀ i, i < 12 → ¬ (sk 6 i = nI p ∧ sk 7 i = nI v)) :
    (∃ f sk2 sm2, FX0_frameForFault (nI p) sk = some (0, nI f, sk2) ∧ FX1_frameFor (nI p) sm = some (0, nI f, sm2) ∧ Got n c r t h p v sk sk2 sm2 f) ∨ (FX0_frameForFault (nI p) sk = some (0, -1, sk) ∧ FX1_frameFor (nI p) sm = some (0, -1, sm)) ∨ (FX0_frameForFault (nI p) sk = some (2, 0, sk) ∧ FX1_frameFor (nI p) sm = some (0, -2, sm)) := by
  have hnl := R.1.1.2.2
  unfold FX0_frameForFault FX1_frameFor
  obtain ⟨z, h1, h2, h3⟩ := R.s_empty (nI p)
  rw [h1, h2, pz_bnd, pz_bnd]
  rcases h3 with ⟨f, f1, ⟨f2, f3⟩, f4, rfl⟩ | ⟨f1, rfl⟩
  · -- an empty frame
    rw [if_neg (pz_m1 (by omega)), if_neg (pz_m1 (by omega)), FX0_frameForFault_j17, if_neg (pz_m1 (by omega)), FX0_frameForFault_j28, if_neg (pz_m1 (by omega))]
    exact Or.inl ⟨f, sk, sm, rfl, rfl, R.got_here f1 f2 (cm_empty f3) hu⟩
  · rw [if_pos rfl, if_pos rfl]
    obtain ⟨y, k1, k2, k3, k4⟩ := R.s_call (nI p)
    rcases k2 with ⟨j, j1, ⟨j2, j3, j4⟩, j5, rfl⟩ | ⟨j1, rfl⟩
    · -- a loan is called in
      obtain ⟨g, p0, q0, a1, a2, a3, a4, a5, a6, a7, a8⟩ := R.2.2.2.1 j j1
      have hs : sm 7 g = nI j := a8.elim (fun z => z.2) (fun z => absurd z.1 j2)
      have h0 : cm sk g = 0 := by rw [a5, pz_tn (by omega)] at j4; exact j4
      obtain ⟨d1, d2, d3⟩ := R.s_end j1 a1 a5 hs h0
      have e10 : eK sk j g 10 (nI j).toNatClampNeg = nI g := by
        rw [pz_tn (by omega)]
        unfold eK
        rw [se_r (by decide), se_r (by decide), dp_r (Or.inl (by decide)) (Or.inl (by decide)) (Or.inl (by decide)), a5]
      have e13 : eM sm g 13 (nI j).toNatClampNeg = nI g := by
        rw [pz_tn (by omega)]
        unfold eM
        rw [se_r (by decide), se_r (by decide), ← (R.2.2.2.2.1 j (by omega)).1.1, a5]
      rw [k4 j j1 rfl, d1, pz_bnd, pz_gd (n := 60) (by omega) (by omega), e10, pz_bnd, k1, pz_bnd, if_neg (pz_m1 (by omega)), d2, pz_bnd, pz_gd (n := 60) (by omega) (by omega), e13, FX0_frameForFault_j17, if_neg (pz_m1 (by omega)), FX0_frameForFault_j28, if_neg (pz_m1 (by omega))]
      have e7 : eK sk j g 7 g = -1 := by unfold eK; rw [se_r (by decide), se_r (by decide), dp_7]
      have e6 : eK sk j g 6 g = nI p := by
        unfold eK
        rw [se_s]
        have hl := (R.2.2.1 g a1).2.2.2.2.2.1
        rcases hl with ⟨b1, b2⟩ | ⟨j9, b1, b2, b3, b4, b5⟩
        · rw [hs] at b1; exact absurd b1 (pz_m1 (by omega))
        · have : j9 = j := (pz_eq (by omega) (by omega)).mp (by rw [← b2, hs])
          subst this
          rw [b5, j3]
      refine Or.inl ⟨g, _, _, rfl, rfl, a1, ⟨nl, d3.drop_still a1 (cm_empty e7)⟩, e6, (d3.chf_stay a1 (cm_empty e7)).2, fun i hi hig => ?_⟩
      have x6 : eK sk j g 6 i = sk 6 i := by unfold eK; rw [se_i hig, se_r (by decide), dp_r (Or.inl (by decide)) (Or.inl (by decide)) (Or.inl (by decide))]
      have x7 : eK sk j g 7 i = sk 7 i := by unfold eK; rw [se_r (by decide), se_r (by decide), dp_r (Or.inl (by decide)) (Or.inr hig) (Or.inl (by decide))]
      rw [x6, x7]
      exact hu i hi
    · rw [k3 rfl, pz_bnd, k1, pz_bnd, if_pos rfl, FX0_frameForFault_j17, if_pos rfl]
      have g5 : ∀ o, gd (oz_in (nI p) 5) o = o := fun o => pz_gd hp (by omega)
      have e2 := (R.2.1 p hp).1.2.1
      have e15 := R.1.2.1
      have old := R.s_old hu
      have fin : (∃ f sk2 sm2, FX0_frameForFault_j28 (nI p) (-1) sk = some (0, nI f, sk2) ∧ FX1_frameFor_j66 (nI p) sm = some (0, nI f, sm2) ∧ Got n c r t h p v sk sk2 sm2 f) ∨ (FX0_frameForFault_j28 (nI p) (-1) sk = some (0, -1, sk) ∧ FX1_frameFor_j66 (nI p) sm = some (0, -1, sm)) ∨ (FX0_frameForFault_j28 (nI p) (-1) sk = some (2, 0, sk) ∧ FX1_frameFor_j66 (nI p) sm = some (0, -2, sm)) := by
        rw [FX1_frameFor_j66]
        rcases old with ⟨f, o1, o2, o3⟩ | ⟨o1, o2⟩
        · exact Or.inl ⟨f, sk, sm, o1, o2, o3⟩
        · exact Or.inr (Or.inl ⟨o1, o2⟩)
      unfold FX0_borrow
      rw [g5, g5, pz_tn (by omega), ← e2, e15.1, e15.2.1]
      by_cases b1 : sk 2 p < nI r
      · rw [if_pos b1, pz_bnd, if_pos b1]
        exact fin
      · rw [if_neg b1, if_neg b1]
        obtain ⟨w, w1, w2⟩ := R.s_count (nI p)
        rw [w1, w2, pz_bnd, pz_bnd]
        by_cases b2 : w < 3
        · rw [if_pos b2, if_neg (Int32.not_le.mpr b2)]
          obtain ⟨q, q1, q2, q3⟩ := R.s_rich hB hp
          rw [q1, q2, pz_bnd, pz_bnd]
          rcases q3 with rfl | ⟨g, z, g1, g2, rfl, z1, z2, z3, z4, z5, z6⟩
          · rw [F0_isProcess_m1, pz_bnd, if_pos rfl, FX0_borrow_j46, F0_isFrame_m1, pz_bnd, if_pos rfl, pz_bnd]
            exact fin
          · rw [F0_isProcess_in g1, pz_bnd, if_neg (show ¬ (1 : Int32) = 0 by decide), z2, pz_bnd, FX0_borrow_j46, F0_isFrame_in z1, pz_bnd, if_neg (show ¬ (1 : Int32) = 0 by decide), R.1.1.1, FX1_frameFor_j67, if_neg (pz_m1 (by omega)), R.1.1.2.1]
            by_cases hn : nl < 60
            · have hlt60 : nI nl < 60 := (pz_lt (a := nl) (b := 60) (by omega) (by omega)).mpr hn
              have hne60 : ¬ nI nl = 60 := fun q => absurd ((pz_eq (a := nl) (b := 60) (by omega) (by omega)).mp q) (by omega)
              have hz0 : cm sk z = 0 := z6.elim cm_empty cm_there
              have hls : sm 7 z = -1 := by
                rcases R.hol z1 with ⟨a1, a2⟩ | ⟨i, p', q', a1, a2, a3, a4, a5, a6, a7, a8⟩
                · exact a1
                · rw [z4] at a6
                  rw [z5] at a7
                  exact absurd ((pz_eq (by omega) (by omega)).mp (a6.symm.trans a7)) a5
              have g60 : ∀ o, gd (oz_in (nI nl) 60) o = o := fun o => pz_gd hn (by omega)
              have g12 : ∀ o, gd (oz_in (nI z) 12) o = o := fun o => pz_gd z1 (by omega)
              have hK : FX0_borrow_j46 (nI p) (nI g) (nI z) sk = some (0, nI z, lnk sk z nl (nI p) (nI g)) := by
                unfold FX0_borrow_j46 lnk
                rw [F0_isFrame_in z1, pz_bnd, if_neg (show ¬ (1 : Int32) = 0 by decide), R.1.1.1, if_pos hlt60, g12, pz_stp]
                simp (disch := decide) only [se_r, R.1.1.1, g60, pz_stp, pz_tn (show nl < 100000 by omega), pz_tn (show z < 100000 by omega), pz_1]
              have hM : FX1_lends (nI z) (nI p) sm = some (0, 0, lnm sm z nl (nI p) (nI g)) := by
                unfold FX1_lends lnm
                have e3 : sm 3 z = nI g := by rw [← (R.2.2.1 z z1).1.1, z4]
                simp (disch := decide) only [se_r, R.1.1.2.1, g60, g12, pz_stp, pz_tn (show nl < 100000 by omega), pz_tn (show z < 100000 by omega), pz_1, e3]
              have hK2 := hK
              unfold FX0_borrow_j46 at hK2
              rw [F0_isFrame_in z1, pz_bnd, if_neg (show ¬ (1 : Int32) = 0 by decide), R.1.1.1] at hK2
              rw [hK2, pz_bnd, if_neg hne60, z3, pz_bnd, hM, pz_bnd, FX0_frameForFault_j28, if_neg (pz_m1 (by omega))]
              have RL := (R.drop_still z1 hz0).lendit z1 hp g1 g2 (by rw [dp_r (Or.inl (by decide)) (Or.inl (by decide)) (Or.inl (by decide))]; exact z4) (by rw [se_r (by decide)]; exact hls) dp_7 hn
              rw [lnk_dp, lnm_4] at RL
              refine Or.inl ⟨z, _, _, rfl, rfl, z1, ⟨nl + 1, RL⟩, ?_, ?_, fun i hi hiz => ?_⟩
              · unfold lnk; simp (disch := decide) only [se_r, se_s]
              · have e : lnk sk z nl (nI p) (nI g) 0 18 = sk 0 18 := by unfold lnk; rw [se_i (by decide)]; simp (disch := decide) only [se_r]
                rw [e]; exact (R.chf_stay z1 hz0).2
              · have x6 : lnk sk z nl (nI p) (nI g) 6 i = sk 6 i := by unfold lnk; simp (disch := first | decide | assumption) only [se_r, se_i]
                have x7 : lnk sk z nl (nI p) (nI g) 7 i = sk 7 i := by unfold lnk; simp (disch := decide) only [se_r]
                rw [x6, x7]
                exact hu i hi
            · have hn9 : nl = 60 := by omega
              have hnl60 : ¬ nI nl < 60 := fun q => hn ((pz_lt (a := nl) (b := 60) (by omega) (by omega)).mp q)
              have he60 : nI nl = 60 := by rw [hn9]; rfl
              rw [if_neg hnl60, if_pos he60]
              exact Or.inr (Or.inr ⟨rfl, rfl⟩)
        · rw [if_neg b2, if_pos (Int32.not_lt.mp b2), pz_bnd]
          exact fin
end PS
