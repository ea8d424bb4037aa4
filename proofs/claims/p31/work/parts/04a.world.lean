/-! THE WORLD OF ONE OBJECT AND ITS ROWS: st 0 j is the number in the field j, st (j + 1) the row that the field j points to; ly: for each field the length of its row (0: a number) and whether it holds booleans; al 0 the object, al (j + 1) the row of the field j. -/
abbrev ST : Type := Nat → Nat → Int32
abbrev Res : Type := Nat × Int32 × ST
abbrev LY : Type := List (Nat × Bool)
def oz_us (st : ST) (k : Nat) (f : Nat → Int32) : ST := fun a => if a = k then f else st a
/-- one number of a row (or, in row 0, of a field) is changed -/
def oz_se (st : ST) (k i : Nat) (v : Int32) : ST := oz_us st k (upd (st k) i v)
def oz_fl (ad : Nat → Nat) (st : ST) : Nat → LY → List Value
  | _, [] => []
  | j, (0, _) :: r => .int (st 0 j) :: oz_fl ad st (j + 1) r
  | j, (_ + 1, _) :: r => .ref (ad (j + 1)) :: oz_fl ad st (j + 1) r
def oz_al (cI cZ : ClassId) (ad : Nat → Nat) (st : ST) : Nat → LY → va_W
  | _, [] => []
  | j, (0, _) :: r => oz_al cI cZ ad st (j + 1) r
  | j, (n + 1, b) :: r => (ad (j + 1), .inl (if b then cZ else cI, n + 1, .inl (st (j + 1)))) :: oz_al cI cZ ad st (j + 1) r
def oz_wd (ci : Nat) (cI cZ : ClassId) (ad : Nat → Nat) (ly : LY) (st : ST) : va_W := (ad 0, .inr (ci, oz_fl ad st 0 ly)) :: oz_al cI cZ ad st 0 ly
theorem oz_us_same (st : ST) (k : Nat) (f : Nat → Int32) : oz_us st k f k = f := by simp [oz_us]
theorem oz_us_ne (st : ST) {k a : Nat} (f : Nat → Int32) (h : a ≠ k) : oz_us st k f a = st a := by simp [oz_us, h]
theorem oz_se_at (st : ST) (k i : Nat) (v : Int32) (a b : Nat) : oz_se st k i v a b = if a = k ∧ b = i then v else st a b := by
  by_cases h : a = k
  · subst h
    by_cases h2 : b = i
    · simp [oz_se, oz_us, upd, h2]
    · simp [oz_se, oz_us, upd, h2]
  · simp [oz_se, oz_us, h]
theorem oz_fl_len (ad : Nat → Nat) (st : ST) : ∀ (ly : LY) (j : Nat), (oz_fl ad st j ly).length = ly.length
  | [], _ => rfl
  | (0, _) :: r, j => by simp [oz_fl, oz_fl_len ad st r]
  | (_ + 1, _) :: r, j => by simp [oz_fl, oz_fl_len ad st r]
theorem oz_fl_int (ad : Nat → Nat) (st : ST) : ∀ (ly : LY) (j i : Nat) {b : Bool}, ly[i]? = some (0, b) → (oz_fl ad st j ly)[i]? = some (.int (st 0 (j + i)))
  | [], _, _, _, h => by simp at h
  | (0, _) :: r, j, 0, _, h => by simp [oz_fl]
  | (_ + 1, _) :: r, j, 0, _, h => by simp at h
  | (0, _) :: r, j, i + 1, _, h => by
    have := oz_fl_int ad st r (j + 1) i (by simpa using h)
    simp only [oz_fl, List.getElem?_cons_succ]
    rw [this, show j + 1 + i = j + (i + 1) by omega]
  | (_ + 1, _) :: r, j, i + 1, _, h => by
    have := oz_fl_int ad st r (j + 1) i (by simpa using h)
    simp only [oz_fl, List.getElem?_cons_succ]
    rw [this, show j + 1 + i = j + (i + 1) by omega]
theorem oz_fl_ref (ad : Nat → Nat) (st : ST) : ∀ (ly : LY) (j i : Nat) {n : Nat} {b : Bool}, ly[i]? = some (n + 1, b) → (oz_fl ad st j ly)[i]? = some (.ref (ad (j + i + 1)))
  | [], _, _, _, _, h => by simp at h
  | (0, _) :: r, j, 0, _, _, h => by simp at h
  | (_ + 1, _) :: r, j, 0, _, _, h => by simp [oz_fl]
  | (0, _) :: r, j, i + 1, _, _, h => by
    have := oz_fl_ref ad st r (j + 1) i (by simpa using h)
    simp only [oz_fl, List.getElem?_cons_succ]
    rw [this, show j + 1 + i + 1 = j + (i + 1) + 1 by omega]
  | (_ + 1, _) :: r, j, i + 1, _, _, h => by
    have := oz_fl_ref ad st r (j + 1) i (by simpa using h)
    simp only [oz_fl, List.getElem?_cons_succ]
    rw [this, show j + 1 + i + 1 = j + (i + 1) + 1 by omega]
theorem oz_fl_cong (ad : Nat → Nat) {st st2 : ST} : ∀ (ly : LY) (j : Nat), (∀ a, j ≤ a → st 0 a = st2 0 a) → oz_fl ad st j ly = oz_fl ad st2 j ly
  | [], _, _ => rfl
  | (0, _) :: r, j, h => by simp only [oz_fl]; rw [h j (Nat.le_refl j), oz_fl_cong ad r (j + 1) (fun a q => h a (by omega))]
  | (_ + 1, _) :: r, j, h => by simp only [oz_fl]; rw [oz_fl_cong ad r (j + 1) (fun a q => h a (by omega))]
theorem oz_fl_set (ad : Nat → Nat) (st : ST) (v : Int32) : ∀ (ly : LY) (j i : Nat) {b : Bool}, ly[i]? = some (0, b) → (oz_fl ad st j ly).set i (.int v) = oz_fl ad (oz_se st 0 (j + i) v) j ly
  | [], _, _, _, h => by simp at h
  | (0, _) :: r, j, 0, _, h => by
    simp only [oz_fl, List.set_cons_zero]
    rw [oz_se_at, if_pos ⟨rfl, rfl⟩, oz_fl_cong ad (st := st) (st2 := oz_se st 0 (j + 0) v) r (j + 1) (fun a q => by rw [oz_se_at, if_neg (by omega)])]
  | (_ + 1, _) :: r, j, 0, _, h => by simp at h
  | (0, _) :: r, j, i + 1, _, h => by
    have := oz_fl_set ad st v r (j + 1) i (by simpa using h)
    simp only [oz_fl, List.set_cons_succ]
    rw [this, show j + 1 + i = j + (i + 1) by omega, oz_se_at, if_neg (by omega)]
  | (_ + 1, _) :: r, j, i + 1, _, h => by
    have := oz_fl_set ad st v r (j + 1) i (by simpa using h)
    simp only [oz_fl, List.set_cons_succ]
    rw [this, show j + 1 + i = j + (i + 1) by omega]
theorem oz_al_cong (cI cZ : ClassId) (ad : Nat → Nat) {st st2 : ST} : ∀ (ly : LY) (j : Nat), (∀ a, j < a → st a = st2 a) → oz_al cI cZ ad st j ly = oz_al cI cZ ad st2 j ly
  | [], _, _ => rfl
  | (0, _) :: r, j, h => by simp only [oz_al]; exact oz_al_cong cI cZ ad r (j + 1) (fun a q => h a (by omega))
  | (_ + 1, _) :: r, j, h => by simp only [oz_al]; rw [h (j + 1) (by omega), oz_al_cong cI cZ ad r (j + 1) (fun a q => h a (by omega))]
theorem oz_al_get (cI cZ : ClassId) (ad : Nat → Nat) (st : ST) : ∀ (ly : LY) (j i : Nat) {n : Nat} {b : Bool}, ly[i]? = some (n + 1, b) →
    ∃ q, (oz_al cI cZ ad st j ly)[q]? = some (ad (j + i + 1), .inl (if b then cZ else cI, n + 1, .inl (st (j + i + 1)))) ∧ ∀ f, (oz_al cI cZ ad st j ly).set q (ad (j + i + 1), .inl (if b then cZ else cI, n + 1, .inl f)) = oz_al cI cZ ad (oz_us st (j + i + 1) f) j ly
  | [], _, _, _, _, h => by simp at h
  | (0, _) :: r, j, 0, _, _, h => by simp at h
  | (m + 1, b0) :: r, j, 0, n, b, h => by
    have h1 : m = n ∧ b0 = b := by simpa using h
    obtain ⟨rfl, rfl⟩ := h1
    refine ⟨0, by simp [oz_al], fun f => ?_⟩
    simp only [oz_al, List.set_cons_zero, Nat.add_zero]
    rw [oz_us_same, oz_al_cong cI cZ ad (st := st) (st2 := oz_us st (j + 1) f) r (j + 1) (fun a q => (oz_us_ne st f (by omega)).symm)]
  | (0, _) :: r, j, i + 1, n, b, h => by
    obtain ⟨q, h1, h2⟩ := oz_al_get cI cZ ad st r (j + 1) i (by simpa using h)
    have e : j + 1 + i + 1 = j + (i + 1) + 1 := by omega
    rw [e] at h1 h2
    exact ⟨q, by simpa only [oz_al] using h1, fun f => by simpa only [oz_al] using h2 f⟩
  | (m + 1, b0) :: r, j, i + 1, n, b, h => by
    obtain ⟨q, h1, h2⟩ := oz_al_get cI cZ ad st r (j + 1) i (by simpa using h)
    have e : j + 1 + i + 1 = j + (i + 1) + 1 := by omega
    rw [e] at h1 h2
    refine ⟨q + 1, by simpa only [oz_al, List.getElem?_cons_succ] using h1, fun f => ?_⟩
    simp only [oz_al, List.set_cons_succ]
    rw [h2 f, oz_us_ne st f (by omega)]
/-- the object's own cell, and a row's, in the world -/
theorem oz_wd_obj (ci : Nat) (cI cZ : ClassId) (ad : Nat → Nat) (ly : LY) (st : ST) : (oz_wd ci cI cZ ad ly st)[0]? = some (ad 0, .inr (ci, oz_fl ad st 0 ly)) := rfl
theorem oz_wd_put (ci : Nat) (cI cZ : ClassId) (ad : Nat → Nat) (ly : LY) (st : ST) {k : Nat} {b : Bool} (h : ly[k]? = some (0, b)) (v : Int32) : (oz_wd ci cI cZ ad ly st).set 0 (ad 0, .inr (ci, (oz_fl ad st 0 ly).set k (.int v))) = oz_wd ci cI cZ ad ly (oz_se st 0 k v) := by
  unfold oz_wd
  rw [List.set_cons_zero, oz_fl_set ad st v ly 0 k h, Nat.zero_add]
  rw [oz_al_cong cI cZ ad (st := st) (st2 := oz_se st 0 k v) ly 0 (fun a q => (oz_us_ne st _ (by omega)).symm)]
theorem oz_wd_get (ci : Nat) (cI cZ : ClassId) (ad : Nat → Nat) (ly : LY) (st : ST) {k n : Nat} {b : Bool} (h : ly[k]? = some (n + 1, b)) :
    ∃ q, (oz_wd ci cI cZ ad ly st)[q]? = some (ad (k + 1), .inl (if b then cZ else cI, n + 1, .inl (st (k + 1)))) ∧ ∀ i v, (oz_wd ci cI cZ ad ly st).set q (ad (k + 1), .inl (if b then cZ else cI, n + 1, .inl (upd (st (k + 1)) i v))) = oz_wd ci cI cZ ad ly (oz_se st (k + 1) i v) := by
  obtain ⟨q, h1, h2⟩ := oz_al_get cI cZ ad st ly 0 k h
  rw [Nat.zero_add] at h1 h2
  refine ⟨q + 1, h1, fun i v => ?_⟩
  unfold oz_wd
  rw [List.set_cons_succ, h2]
  rw [oz_fl_cong ad (st := st) (st2 := oz_se st (k + 1) i v) ly 0 (fun a _ => by rw [oz_se_at, if_neg (by omega)])]
  rfl
/-- the addresses don't depend on what the cells hold -/
theorem oz_al_fst (cI cZ : ClassId) (ad : Nat → Nat) (st st2 : ST) : ∀ (ly : LY) (j : Nat), (oz_al cI cZ ad st j ly).map Prod.fst = (oz_al cI cZ ad st2 j ly).map Prod.fst
  | [], _ => rfl
  | (0, _) :: r, j => by simp only [oz_al]; exact oz_al_fst cI cZ ad st st2 r (j + 1)
  | (_ + 1, _) :: r, j => by simp only [oz_al, List.map_cons]; rw [oz_al_fst cI cZ ad st st2 r (j + 1)]
theorem oz_wd_fst (ci : Nat) (cI cZ : ClassId) (ad : Nat → Nat) (ly : LY) (st st2 : ST) : (oz_wd ci cI cZ ad ly st).map Prod.fst = (oz_wd ci cI cZ ad ly st2).map Prod.fst := by
  simp only [oz_wd, List.map_cons]
  rw [oz_al_fst cI cZ ad st st2 ly 0]
theorem oz_fst_get {ws ws2 : va_W} (h : ws.map Prod.fst = ws2.map Prod.fst) {k : Nat} {q : Nat × va_E} (hk : ws[k]? = some q) : ∃ e, ws2[k]? = some (q.1, e) := by
  have h1 : (ws.map Prod.fst)[k]? = some q.1 := by rw [List.getElem?_map, hk]; rfl
  rw [h, List.getElem?_map] at h1
  cases h2 : ws2[k]? with
  | none => rw [h2] at h1; cases h1
  | some r => rw [h2] at h1; obtain ⟨a, e⟩ := r; cases h1; exact ⟨e, rfl⟩
theorem oz_D_cong {A : Nat → Prop} {ws ws2 : va_W} (h : ws.map Prod.fst = ws2.map Prod.fst) (hD : va_D A ws) : va_D A ws2 := by
  refine ⟨fun i j p q hi hj hpq => ?_, fun k q hk => ?_⟩
  · obtain ⟨e1, h1⟩ := oz_fst_get h.symm hi
    obtain ⟨e2, h2⟩ := oz_fst_get h.symm hj
    exact hD.1 i j _ _ h1 h2 hpq
  · obtain ⟨e1, h1⟩ := oz_fst_get h.symm hk
    exact hD.2 k (q.1, e1) h1
theorem oz_A_cong {ws ws2 : va_W} (h : ws.map Prod.fst = ws2.map Prod.fst) (sz q : Nat) (k : va_A ws sz q) : va_A ws2 sz q := by
  rcases k with ⟨k, e, hk⟩ | k
  · obtain ⟨e2, h2⟩ := oz_fst_get h hk
    exact Or.inl ⟨k, e2, h2⟩
  · exact Or.inr k
