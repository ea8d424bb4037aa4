/-! ONE CALL OF THE CLASS BESIDE THE SAME CALL OF THE REFERENCE -/
theorem n10 : ¬ (1 : Int32) = 0 := by decide
theorem pz_up {a m M : Int32} (hm : M.toInt = m.toInt + 1) (h : m < a) : M ≤ a := by
  rw [Int32.lt_iff_toInt_lt] at h
  rw [Int32.le_iff_toInt_le]
  omega
/-- before the call j: purses of at most 20 + 4 j + 590 t -/
def Iv (j : Nat) (sk sm : ST) : Prop := ∃ c nl r t h, Rel (20 + 4 * j + 590 * t) c nl r t h sk sm
def Sim (cv : Int32 → Int64) (hs : List (Nat × Int32)) (j : Nat) (o1 o2 : Option Res) : Prop :=
  ∃ e v sk2 b sm2, o1 = some (e, v, sk2) ∧ o2 = some (0, b, sm2) ∧ Iv j sk2 sm2 ∧ ((e = 0 ∧ sm2 0 18 = 0 ∧ cv v = cv b) ∨ (e ≠ 0 ∧ oz_code hs e = some (sm2 0 18) ∧ sm2 0 18 ≠ 0))
def Sim0 (j : Nat) (o1 o2 : Option Res) : Prop := ∃ v sk2 sm2, o1 = some (0, v, sk2) ∧ o2 = some (0, v, sm2) ∧ Iv j sk2 sm2
section PJ
variable {m n nl r t h j e : Nat} {c v b : Int32} {sk sm sk2 sm2 : ST} {cv : Int32 → Int64} {hs : List (Nat × Int32)} {o1 o2 : Option Res}
theorem Iv.of (R : Rel m c nl r t h sk sm) (hm : m ≤ 20 + 4 * j + 590 * t) : Iv j sk sm := ⟨c, nl, r, t, h, R.mono hm⟩
theorem Sim.ok (e1 : o1 = some (0, v, sk2)) (e2 : o2 = some (0, b, sm2)) (R : Rel m 0 nl r t h sk2 sm2) (hm : m ≤ 20 + 4 * j + 590 * t) (hb : v = b) : Sim cv hs j o1 o2 :=
  ⟨0, v, sk2, b, sm2, e1, e2, Iv.of R hm, Or.inl ⟨rfl, R.1.2.2.2.2, congrArg cv hb⟩⟩
theorem Sim.no (e1 : o1 = some (e, v, sk2)) (e2 : o2 = some (0, b, sm2)) (R : Rel m c nl r t h sk2 sm2) (hm : m ≤ 20 + 4 * j + 590 * t) (he : e ≠ 0) (hc : oz_code hs e = some c) (hc0 : c ≠ 0) : Sim cv hs j o1 o2 :=
  ⟨e, v, sk2, b, sm2, e1, e2, Iv.of R hm, Or.inr ⟨he, by rw [R.1.2.2.2.2]; exact hc, by rw [R.1.2.2.2.2]; exact hc0⟩⟩
theorem F1_goes0 (s : ST) : FX1_goes 0 s = some (0, 1, oz_se s 0 18 0) := rfl
theorem F1_goes1 (s : ST) : FX1_goes 1 s = some (0, 0, oz_se s 0 18 1) := rfl
theorem F1_goes2 (s : ST) : FX1_goes 2 s = some (0, 0, oz_se s 0 18 2) := rfl
theorem frm (a : Int32) : (∃ k, k < 12 ∧ a = nI k) ∨ ((∀ s, FX0_isFrame a s = some (0, 0, s)) ∧ ∀ s, FX1_isFrame a s = some (0, 0, s)) := by
  by_cases h0 : a < 0
  · exact Or.inr ⟨fun s => by rw [FX0_isFrame, if_pos h0], fun s => by rw [F1_isFrame_val, if_pos h0]⟩
  · by_cases h1 : 11 < a
    · exact Or.inr ⟨fun s => by rw [FX0_isFrame, if_neg h0, if_pos (pz_up (M := 12) rfl h1)], fun s => by rw [F1_isFrame_val, if_neg h0, if_pos h1]⟩
    · obtain ⟨k, k1, k2⟩ := nI_of2 (M := 11) (n := 11) rfl h0 (Int32.not_lt.mp h1)
      exact Or.inl ⟨k, by omega, k2⟩
theorem prc (a : Int32) : (∃ k, k < 5 ∧ a = nI k) ∨ ((∀ s, FX0_isProcess a s = some (0, 0, s)) ∧ ∀ s, FX1_isProcess a s = some (0, 0, s)) := by
  by_cases h0 : a < 0
  · exact Or.inr ⟨fun s => by rw [FX0_isProcess, if_pos h0], fun s => by rw [F1_isProcess_val, if_pos h0]⟩
  · by_cases h1 : 4 < a
    · exact Or.inr ⟨fun s => by rw [FX0_isProcess, if_neg h0, if_pos (pz_up (M := 5) rfl h1)], fun s => by rw [F1_isProcess_val, if_neg h0, if_pos h1]⟩
    · obtain ⟨k, k1, k2⟩ := nI_of2 (M := 4) (n := 4) rfl h0 (Int32.not_lt.mp h1)
      exact Or.inl ⟨k, by omega, k2⟩
theorem F1_isFrame_in {k : Nat} (hk : k < 12) (s : ST) : FX1_isFrame (nI k) s = some (0, 1, s) := by
  have e : ¬ (11 : Int32) < nI k := fun q => absurd ((pz_lt (a := 11) (b := k) (by omega) (by omega)).mp q) (by omega)
  rw [F1_isFrame_val, if_neg (pz_neg (by omega)), if_neg e]
theorem F1_isProcess_in {k : Nat} (hk : k < 5) (s : ST) : FX1_isProcess (nI k) s = some (0, 1, s) := by
  have e : ¬ (4 : Int32) < nI k := fun q => absurd ((pz_lt (a := 4) (b := k) (by omega) (by omega)).mp q) (by omega)
  rw [F1_isProcess_val, if_neg (pz_neg (by omega)), if_neg e]
theorem Rel.lon (R : Rel n c nl r t h sk sm) (a : Int32) : (∃ k, k < nl ∧ a = nI k ∧ FX0_isLoan a sk = some (0, 1, sk) ∧ FX1_isLoan a sm = some (0, 1, sm)) ∨ (FX0_isLoan a sk = some (0, 0, sk) ∧ FX1_isLoan a sm = some (0, 0, sm)) := by
  have hnl := R.1.1.2.2
  unfold FX0_isLoan
  rw [F1_isLoan_val, R.nl_m1, R.1.1.1]
  by_cases h0 : a < 0
  · rw [if_pos h0, if_pos h0]; exact Or.inr ⟨rfl, rfl⟩
  · obtain ⟨k, k1, rfl⟩ := nI_of h0
    rw [if_neg h0, if_neg h0]
    by_cases h1 : k < nl
    · have e1 : ¬ (60 : Int32) ≤ nI k := fun q => absurd ((pz_le (a := 60) (b := k) (by omega) (by omega)).mp q) (by omega)
      have e2 : ¬ nI nl ≤ nI k := fun q => absurd ((pz_le (a := nl) (b := k) (by omega) (by omega)).mp q) (by omega)
      have e3 : ¬ dn nl < nI k := by
        obtain ⟨m, rfl⟩ : ∃ m, nl = m + 1 := ⟨nl - 1, by omega⟩
        exact fun q => absurd ((pz_lt (a := m) (b := k) (by omega) (by omega)).mp q) (by omega)
      rw [if_neg e1, if_neg e2, if_neg e3]
      exact Or.inl ⟨k, h1, rfl, rfl, rfl⟩
    · have e2 : nI nl ≤ nI k := (nI_leI (by omega) k1).mpr (by omega)
      have e3 : dn nl < nI k := by
        cases nl with
        | zero => exact Int32.lt_of_lt_of_le (show (-1 : Int32) < 0 by decide) (Int32.not_lt.mp h0)
        | succ m => exact (nI_ltI (a := m) (by omega) k1).mpr (by omega)
      rw [if_pos e2, if_pos e3, ite_self]
      exact Or.inr ⟨rfl, rfl⟩
theorem c_owner (R : Rel n c nl r t h sk sm) (hn : n ≤ 20 + 4 * j + 590 * t) (a : Int32) : Sim cv [(1, 1)] j (FX0_owner a sk) (FX1_owner a sm) := by
  unfold FX0_owner FX1_owner
  rcases frm a with ⟨k, hk, rfl⟩ | ⟨h1, h2⟩
  · rw [F0_isFrame_in hk, F1_isFrame_in hk, pz_bnd, pz_bnd, if_neg n10, if_neg n10, FX1_owner_j13, F1_goes0, pz_bnd, if_neg n10, pz_gd hk (by omega), pz_gd hk (by omega), pz_tn (by omega)]
    exact Sim.ok rfl rfl (R.thr 0) hn (((R.thr 0).2.2.1 k hk).1.1)
  · rw [h1, h2, pz_bnd, pz_bnd, if_pos rfl, if_pos rfl, FX1_owner_j13, F1_goes1, pz_bnd, if_pos rfl]
    exact Sim.no rfl rfl (R.thr 1) hn (by decide) rfl (by decide)
theorem c_holder (R : Rel n c nl r t h sk sm) (hn : n ≤ 20 + 4 * j + 590 * t) (a : Int32) : Sim cv [(1, 1)] j (FX0_holder a sk) (FX1_holder a sm) := by
  unfold FX0_holder FX1_holder
  rcases frm a with ⟨k, hk, rfl⟩ | ⟨h1, h2⟩
  · rw [F0_isFrame_in hk, F1_isFrame_in hk, pz_bnd, pz_bnd, if_neg n10, if_neg n10, FX1_holder_j13, F1_goes0, pz_bnd, if_neg n10, pz_gd hk (by omega), pz_tn (by omega), (R.thr 0).f1_holderOf hk, pz_bnd]
    exact Sim.ok rfl rfl (R.thr 0) hn (rfl)
  · rw [h1, h2, pz_bnd, pz_bnd, if_pos rfl, if_pos rfl, FX1_holder_j13, F1_goes1, pz_bnd, if_pos rfl]
    exact Sim.no rfl rfl (R.thr 1) hn (by decide) rfl (by decide)
theorem c_holderByLog (R : Rel n c nl r t h sk sm) (hn : n ≤ 20 + 4 * j + 590 * t) (a : Int32) : Sim cv [(1, 1)] j (FX0_holderByLog a sk) (FX1_holderByLog a sm) := by
  unfold FX0_holderByLog FX1_holderByLog
  rcases frm a with ⟨k, hk, rfl⟩ | ⟨h1, h2⟩
  · rw [F0_isFrame_in hk, F1_isFrame_in hk, pz_bnd, pz_bnd, if_neg n10, if_neg n10, FX1_holderByLog_j13, F1_goes0, pz_bnd, if_neg n10, R.s_log hk, (R.thr 0).f1_holderOf hk, pz_bnd]
    exact Sim.ok rfl rfl (R.thr 0) hn (rfl)
  · rw [h1, h2, pz_bnd, pz_bnd, if_pos rfl, if_pos rfl, FX1_holderByLog_j13, F1_goes1, pz_bnd, if_pos rfl]
    exact Sim.no rfl rfl (R.thr 1) hn (by decide) rfl (by decide)
theorem c_pageIn (R : Rel n c nl r t h sk sm) (hn : n ≤ 20 + 4 * j + 590 * t) (a : Int32) : Sim cv [(1, 1)] j (FX0_pageIn a sk) (FX1_pageIn a sm) := by
  unfold FX0_pageIn FX1_pageIn
  rcases frm a with ⟨k, hk, rfl⟩ | ⟨h1, h2⟩
  · rw [F0_isFrame_in hk, F1_isFrame_in hk, pz_bnd, pz_bnd, if_neg n10, if_neg n10, FX1_pageIn_j13, F1_goes0, pz_bnd, if_neg n10, pz_gd hk (by omega), pz_gd hk (by omega), pz_tn (by omega)]
    exact Sim.ok rfl rfl (R.thr 0) hn (((R.thr 0).2.2.1 k hk).1.2.1)
  · rw [h1, h2, pz_bnd, pz_bnd, if_pos rfl, if_pos rfl, FX1_pageIn_j13, F1_goes1, pz_bnd, if_pos rfl]
    exact Sim.no rfl rfl (R.thr 1) hn (by decide) rfl (by decide)
theorem c_age (R : Rel n c nl r t h sk sm) (hn : n ≤ 20 + 4 * j + 590 * t) (a : Int32) : Sim cv [(1, 1)] j (FX0_age a sk) (FX1_age a sm) := by
  unfold FX0_age FX1_age
  rcases frm a with ⟨k, hk, rfl⟩ | ⟨h1, h2⟩
  · rw [F0_isFrame_in hk, F1_isFrame_in hk, pz_bnd, pz_bnd, if_neg n10, if_neg n10, FX1_age_j13, F1_goes0, pz_bnd, if_neg n10, F0_ageOf_in hk, pz_bnd, (R.thr 0).f1_ageOf hk, pz_bnd]
    exact Sim.ok rfl rfl (R.thr 0) hn (rfl)
  · rw [h1, h2, pz_bnd, pz_bnd, if_pos rfl, if_pos rfl, FX1_age_j13, F1_goes1, pz_bnd, if_pos rfl]
    exact Sim.no rfl rfl (R.thr 1) hn (by decide) rfl (by decide)
theorem c_borrowed (R : Rel n c nl r t h sk sm) (hn : n ≤ 20 + 4 * j + 590 * t) (a : Int32) : Sim cv [(1, 1)] j (FX0_borrowed a sk) (FX1_borrowed a sm) := by
  unfold FX0_borrowed FX1_borrowed
  rcases prc a with ⟨k, hk, rfl⟩ | ⟨h1, h2⟩
  · obtain ⟨v, v1, v2⟩ := (R.thr 0).s_count (nI k)
    rw [F0_isProcess_in hk, F1_isProcess_in hk, pz_bnd, pz_bnd, if_neg n10, if_neg n10, FX1_borrowed_j13, F1_goes0, pz_bnd, if_neg n10, v1, pz_bnd, v2, pz_bnd]
    exact Sim.ok rfl rfl (R.thr 0) hn (rfl)
  · rw [h1, h2, pz_bnd, pz_bnd, if_pos rfl, if_pos rfl, FX1_borrowed_j13, F1_goes1, pz_bnd, if_pos rfl]
    exact Sim.no rfl rfl (R.thr 1) hn (by decide) rfl (by decide)
theorem c_stateOf (R : Rel n c nl r t h sk sm) (hn : n ≤ 20 + 4 * j + 590 * t) (a : Int32) : Sim cv [(1, 1)] j (FX0_stateOf a sk) (FX1_stateOf a sm) := by
  unfold FX0_stateOf FX1_stateOf
  rcases prc a with ⟨k, hk, rfl⟩ | ⟨h1, h2⟩
  · rw [F0_isProcess_in hk, F1_isProcess_in hk, pz_bnd, pz_bnd, if_neg n10, if_neg n10, FX1_stateOf_j13, F1_goes0, pz_bnd, if_neg n10, pz_gd hk (by omega), pz_gd hk (by omega), pz_tn (by omega)]
    exact Sim.ok rfl rfl (R.thr 0) hn (((R.thr 0).2.1 k hk).1.2.2.1)
  · rw [h1, h2, pz_bnd, pz_bnd, if_pos rfl, if_pos rfl, FX1_stateOf_j13, F1_goes1, pz_bnd, if_pos rfl]
    exact Sim.no rfl rfl (R.thr 1) hn (by decide) rfl (by decide)
theorem c_purse (R : Rel n c nl r t h sk sm) (hn : n ≤ 20 + 4 * j + 590 * t) (a : Int32) : Sim cv [(1, 1)] j (FX0_purse a sk) (FX1_purse a sm) := by
  unfold FX0_purse FX1_purse
  rcases prc a with ⟨k, hk, rfl⟩ | ⟨h1, h2⟩
  · rw [F0_isProcess_in hk, F1_isProcess_in hk, pz_bnd, pz_bnd, if_neg n10, if_neg n10, FX1_purse_j13, F1_goes0, pz_bnd, if_neg n10, pz_gd hk (by omega), pz_gd hk (by omega), pz_tn (by omega)]
    exact Sim.ok rfl rfl (R.thr 0) hn (((R.thr 0).2.1 k hk).1.2.1)
  · rw [h1, h2, pz_bnd, pz_bnd, if_pos rfl, if_pos rfl, FX1_purse_j13, F1_goes1, pz_bnd, if_pos rfl]
    exact Sim.no rfl rfl (R.thr 1) hn (by decide) rfl (by decide)
theorem c_faults (R : Rel n c nl r t h sk sm) (hn : n ≤ 20 + 4 * j + 590 * t) (a : Int32) : Sim cv [(1, 1)] j (FX0_faults a sk) (FX1_faults a sm) := by
  unfold FX0_faults FX1_faults
  rcases prc a with ⟨k, hk, rfl⟩ | ⟨h1, h2⟩
  · rw [F0_isProcess_in hk, F1_isProcess_in hk, pz_bnd, pz_bnd, if_neg n10, if_neg n10, FX1_faults_j13, F1_goes0, pz_bnd, if_neg n10, pz_gd hk (by omega), pz_gd hk (by omega), pz_tn (by omega)]
    exact Sim.ok rfl rfl (R.thr 0) hn (((R.thr 0).2.1 k hk).1.2.2.2)
  · rw [h1, h2, pz_bnd, pz_bnd, if_pos rfl, if_pos rfl, FX1_faults_j13, F1_goes1, pz_bnd, if_pos rfl]
    exact Sim.no rfl rfl (R.thr 1) hn (by decide) rfl (by decide)
theorem c_owns (R : Rel n c nl r t h sk sm) (hn : n ≤ 20 + 4 * j + 590 * t) (a : Int32) : Sim cv [(1, 1)] j (FX0_owns a sk) (FX1_owns a sm) := by
  unfold FX0_owns FX1_owns
  rcases prc a with ⟨k, hk, rfl⟩ | ⟨h1, h2⟩
  · obtain ⟨v, v1, v2⟩ := (R.thr 0).s_owns (nI k)
    rw [F0_isProcess_in hk, F1_isProcess_in hk, pz_bnd, pz_bnd, if_neg n10, if_neg n10, FX1_owns_j15, F1_goes0, pz_bnd, v1, v2]
    exact Sim.ok rfl rfl (R.thr 0) hn rfl
  · rw [h1, h2, pz_bnd, pz_bnd, if_pos rfl, if_pos rfl, FX1_owns_j15, F1_goes1, pz_bnd, FX1_owns_w22, if_neg (by decide), if_pos rfl]
    exact Sim.no rfl rfl (R.thr 1) hn (by decide) rfl (by decide)
theorem c_lent (R : Rel n c nl r t h sk sm) (hn : n ≤ 20 + 4 * j + 590 * t) (a : Int32) : Sim cv [(1, 1)] j (FX0_lent a sk) (FX1_lent a sm) := by
  unfold FX0_lent FX1_lent
  rcases prc a with ⟨k, hk, rfl⟩ | ⟨h1, h2⟩
  · obtain ⟨v, v1, v2⟩ := (R.thr 0).s_lent (nI k)
    rw [F0_isProcess_in hk, F1_isProcess_in hk, pz_bnd, pz_bnd, if_neg n10, if_neg n10, FX1_lent_j15, F1_goes0, pz_bnd, v1, v2]
    exact Sim.ok rfl rfl (R.thr 0) hn rfl
  · rw [h1, h2, pz_bnd, pz_bnd, if_pos rfl, if_pos rfl, FX1_lent_j15, F1_goes1, pz_bnd, FX1_lent_w22, if_neg (by decide), if_pos rfl]
    exact Sim.no rfl rfl (R.thr 1) hn (by decide) rfl (by decide)
theorem c_interest (R : Rel n c nl r t h sk sm) (hn : n ≤ 20 + 4 * j + 590 * t) (a : Int32) : Sim cv [(1, 1)] j (FX0_interest a sk) (FX1_interest a sm) := by
  have hnl := R.1.1.2.2
  unfold FX0_interest FX1_interest
  rcases R.lon a with ⟨k, hk, rfl, h1, h2⟩ | ⟨h1, h2⟩
  · have hk6 : k < 60 := by omega
    rw [h1, h2, pz_bnd, pz_bnd, if_neg n10, if_neg n10, FX1_interest_j14, F1_goes0, pz_bnd, if_neg n10, pz_gd hk6 (by omega), pz_gd hk6 (by omega), pz_tn (by omega)]
    exact Sim.ok rfl rfl (R.thr 0) hn ((R.thr 0).2.2.2.2.1 k hk6).1.2.2.2
  · rw [h1, h2, pz_bnd, pz_bnd, if_pos rfl, if_pos rfl, FX1_interest_j14, F1_goes1, pz_bnd, if_pos rfl]
    exact Sim.no rfl rfl (R.thr 1) hn (by decide) rfl (by decide)
theorem c_partiesOf (R : Rel n c nl r t h sk sm) (hn : n ≤ 20 + 4 * j + 590 * t) (a : Int32) : Sim cv [(1, 1)] j (FX0_partiesOf a sk) (FX1_partiesOf a sm) := by
  have hnl := R.1.1.2.2
  unfold FX0_partiesOf FX1_partiesOf
  rcases R.lon a with ⟨k, hk, rfl, h1, h2⟩ | ⟨h1, h2⟩
  · have hk6 : k < 60 := by omega
    rw [h1, h2, pz_bnd, pz_bnd, if_neg n10, if_neg n10, FX1_partiesOf_j14, F1_goes0, pz_bnd, if_neg n10, pz_gd hk6 (by omega), pz_gd hk6 (by omega), pz_gd hk6 (by omega), pz_gd hk6 (by omega), pz_gd hk6 (by omega), pz_gd hk6 (by omega), pz_tn (by omega)]
    obtain ⟨⟨a1, a2, a3, a4⟩, a5⟩ := (R.thr 0).2.2.2.2.1 k hk6
    exact Sim.ok rfl rfl (R.thr 0) hn (by rw [a1, a2, a3])
  · rw [h1, h2, pz_bnd, pz_bnd, if_pos rfl, if_pos rfl, FX1_partiesOf_j14, F1_goes1, pz_bnd, if_pos rfl]
    exact Sim.no rfl rfl (R.thr 1) hn (by decide) rfl (by decide)
theorem c_lasts (R : Rel n c nl r t h sk sm) (hn : n ≤ 20 + 4 * j + 590 * t) (a : Int32) : Sim cv [(1, 1)] j (FX0_lasts a sk) (FX1_lasts a sm) := by
  have hnl := R.1.1.2.2
  unfold FX0_lasts FX1_lasts
  rcases R.lon a with ⟨k, hk, rfl, h1, h2⟩ | ⟨h1, h2⟩
  · have hk6 : k < 60 := by omega
    rw [h1, h2, pz_bnd, pz_bnd, if_neg n10, if_neg n10, FX1_lasts_j14, F1_goes0, pz_bnd, if_neg n10, pz_gd hk6 (by omega), pz_tn (by omega), (R.thr 0).f1_doesLast hk, pz_bnd]
    obtain ⟨g, p, q, a1, a2, a3, a4, a5, a6, a7, a8⟩ := (R.thr 0).2.2.2.1 k hk
    have e : sk 13 k = 1 ∨ sk 13 k = 0 := a8.elim (fun z => Or.inl z.1) (fun z => Or.inr z.1)
    rcases e with e | e
    · rw [e, if_neg n10]
      exact Sim.ok rfl rfl (R.thr 0) hn rfl
    · rw [e, if_pos rfl]
      exact Sim.ok rfl rfl (R.thr 0) hn rfl
  · rw [h1, h2, pz_bnd, pz_bnd, if_pos rfl, if_pos rfl, FX1_lasts_j14, F1_goes1, pz_bnd, if_pos rfl]
    exact Sim.no rfl rfl (R.thr 1) hn (by decide) rfl (by decide)
theorem c_tick (R : Rel n c nl r t h sk sm) (hn : n ≤ 20 + 4 * j + 590 * t) : Sim0 j (FX0_tick sk) (FX1_tick sm) := by
  unfold FX0_tick FX1_tick
  have e : oz_se sm 0 18 0 0 0 = sm 0 0 := se_i (by decide)
  rw [pz_stp, e, R.1.2.2.1.1.trans R.1.2.2.1.2.1.symm]
  exact ⟨_, _, _, rfl, rfl, Iv.of (R.thr 0) hn⟩
theorem c_loans (R : Rel n c nl r t h sk sm) (hn : n ≤ 20 + 4 * j + 590 * t) : Sim0 j (FX0_loans sk) (FX1_loans sm) := by
  unfold FX0_loans FX1_loans
  have e : oz_se sm 0 18 0 0 11 = sm 0 11 := se_i (by decide)
  rw [pz_stp, e, R.1.1.1.trans R.1.1.2.1.symm]
  exact ⟨_, _, _, rfl, rfl, Iv.of (R.thr 0) hn⟩
theorem c_head (R : Rel n c nl r t h sk sm) (hn : n ≤ 20 + 4 * j + 590 * t) : Sim0 j (FX0_head sk) (FX1_head sm) := by
  unfold FX0_head FX1_head
  have e : oz_se sm 0 18 0 0 16 = sm 0 16 := se_i (by decide)
  rw [pz_stp, e, R.1.2.2.2.1.1.trans R.1.2.2.2.1.2.1.symm]
  exact ⟨_, _, _, rfl, rfl, Iv.of (R.thr 0) hn⟩
theorem c_free (R : Rel n c nl r t h sk sm) (hn : n ≤ 20 + 4 * j + 590 * t) : Sim0 j (FX0_free sk) (FX1_free sm) := by
  unfold FX0_free FX1_free
  obtain ⟨v, v1, v2⟩ := (R.thr 0).s_nfree
  rw [pz_stp, v1, v2]
  exact ⟨_, _, _, rfl, rfl, Iv.of (R.thr 0) hn⟩
theorem c_requests (R : Rel n c nl r t h sk sm) (hn : n ≤ 20 + 4 * j + 590 * t) : Sim0 j (FX0_requests sk) (FX1_requests sm) := by
  unfold FX0_requests FX1_requests
  obtain ⟨v, v1, v2⟩ := (R.thr 0).s_requests
  rw [pz_stp, v1, v2]
  exact ⟨_, _, _, rfl, rfl, Iv.of (R.thr 0) hn⟩
theorem c_requestAt (R : Rel n c nl r t h sk sm) (hn : n ≤ 20 + 4 * j + 590 * t) (a : Int32) : Sim cv [(1, 1)] j (FX0_requestAt a sk) (FX1_requestAt a sm) := by
  unfold FX0_requestAt FX1_requestAt
  by_cases h0 : 0 ≤ a
  · obtain ⟨v, v1, v2⟩ := R.req0 a
    obtain ⟨w, w1, w2⟩ := (R.thr 0).req1 a
    have e := v2.uniq w2
    subst e
    rw [if_pos h0, if_pos h0, FX1_requestAt_j10, F1_goes0, pz_bnd, if_neg n10, v1, w1]
    exact Sim.ok rfl rfl (R.thr 0) hn rfl
  · rw [if_neg h0, if_neg h0, FX1_requestAt_j10, F1_goes1, pz_bnd, if_pos rfl]
    exact Sim.no rfl rfl (R.thr 1) hn (by decide) rfl (by decide)
end PJ
