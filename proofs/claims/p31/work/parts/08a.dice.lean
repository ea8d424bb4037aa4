/-! DICE: the script's numbers, on the script of nines -/
def oz_scr (s : State) (b : Nat) (xs : Nat → Int32) (A : Nat → Prop) : Prop := va_X b 110 xs s s.heap ∧ b < s.heap.size ∧ ¬ A b ∧ ∀ i : Int32, oz_in i 110 = true → xs i.toNatClampNeg = 9
theorem hL_dice : yL_dice.cls ≠ "java/lang/invoke/MethodHandle" ∧ yL_dice.cls ≠ "java/lang/invoke/VarHandle" ∧ (parseMethodDescriptor yL_dice.desc).map (fun d => d.parameters.length) = some 2 := by decide +kernel
theorem dice_lt {k : Int32} (hk : oz_in k 110 = true) : ¬ Int32.ofNat 110 ≤ k := by
  have h := of_decide_eq_true hk
  intro h2
  have h3 := Int32.le_iff_toInt_le.mp h2
  have h4 : (Int32.ofNat 110).toInt = 110 := by decide
  omega
set_option maxHeartbeats 4000000 in
theorem mL_dice (l : Launch) (b sz : Nat) (xs : Nat → Int32) (k : Int32) (hk : oz_in k 110 = true) : Met l yL_dice wsL_dice { frames := 0, cells := 0, slots := 0, locals := 0 } (va_Pc [.ref b, .int k] (fun U => U.heap.size = sz ∧ va_X b 110 xs U U.heap ∧ b < U.heap.size)) (va_Qi (fun r (_ : Unit) => r = xs k.toNatClampNeg &&& 2147483647) (fun _ _ => True) (va_A [] sz)) 0 0 (va_A [] sz) := by
  refine Met.ofW (cc := cL_dice) (maxL := 2) (ret := some .int) (by decide) rfl ?_
  intro p e s m args below meth c s₁ B hml hv
  obtain ⟨rfl, hsz, hX, hbl⟩ := hv
  have hx := B.exec
  have hb := B.bytes
  have hr := B.returns
  have hts := atoms_spec (ws := wsL_dice) B.pre
  have hown : s.vm.findClass RL = some m.cls := findClass_of_methodNamed B.named
  have hc1 : Cond.constant RL 8 2147483647 ∈ wsL_dice := by decide +kernel
  subst hsz
  have hbA : ¬ va_A [] s.heap.size b := fun h => h.elim (fun ⟨j, e1, hj⟩ => by simp at hj) (fun h => by omega)
  have hS : va_S (va_A [] s.heap.size) s.heap s.heap [] := va_S.rf
  have hl := lv_entry [.ref b, .int k] (n := 2) (Nat.le_of_ble_eq_true rfl)
  rw [lg_entry_eq]
  generalize (lg_sl [.ref b, .int k] ++ List.replicate (2 - (lg_sl [.ref b, .int k]).length) Slot.unset).toArray = ls at hl ⊢
  have hl : lv_has ls 2 [(0, .ref b), (1, .int k)] := hl
  refine lv_iload_n hx hb dL_dice_0 rfl (lv_at hl 1 rfl) ?_
  refine lv_aload_n hx hb dL_dice_1 rfl (lv_at hl 0 rfl) ?_
  refine va_slen hx hb hX hbl hbA hS dL_dice_2 ?_
  refine lv_icmp_ge (tgt := 12) hx hb dL_dice_3 (by decide) (fun h => absurd h (dice_lt hk)) (fun h => ?_)
  refine lv_aload_n hx hb dL_dice_6 rfl (lv_at hl 0 rfl) ?_
  refine lv_iload_n hx hb dL_dice_7 rfl (lv_at hl 1 rfl) ?_
  refine va_sld hx hb hX hbl hbA hS (oz_in_spec hk) dL_dice_8 ?_
  refine lv_goto (tgt := 32) hx hb dL_dice_9 (by decide) ?_
  refine lv_ldc hx hb hown (hts _ hc1) dL_dice_32 ?_
  refine lv_iand hx hb dL_dice_34 ?_
  exact W.iret hx hb hr (fun t ht hW => ⟨⟨_, (), rfl, rfl, trivial⟩, hS.F ht⟩) hS.2.2 dL_dice_35 B.notSynchronized
section OD
variable {p : Program} {l : Launch} {e : Env} {R : Room} {s : State} {m : MethodId} {args : Array Value} {below : List Frame} {meth : Method} {c : Code} {Q : State → Prop}
variable {cc : ByteArray} {nL : Nat} {own : String} {D : va_G} {cI cZ : ClassId} {ci : Nat} {T : u_T} {N : Nat} {KS : KSt} {ly : LY} {ad : Nat → Nat} {A : Nat → Prop} {res : RC} {hh : List (Nat × Nat × Nat × Nat)}
variable {G : Nat → Nat → List (Nat × Value) → List Value → Int32 → Option RC → Prop}
variable {pc k b : Nat} {xs : Nat → Int32} {L : List (Nat × Value)} {S : List Value} {st : Int32} {o : Option RC}
theorem oz_dice (X : oz_E p l e R s m args below meth c Q cc nL wsL_law own RL D cI cZ ci T N KS ly ad A res hh G) (hscr : oz_scr s b xs A) {i : Int32} (d : decode cc pc = .ok (.invokestatic 156, 3)) (hR : 0 + 1 ≤ R.frames ∧ 8 + (2 + 11) + 0 ≤ R.locals) (hW : (S.map fun v => v.category).sum ≤ 8) (hk1 : k ≤ R.cells) (hk2 : 6 * k ≤ R.slots)
    (kk : oz_in i 110 = true → G k (pc + 3) L (.int 9 :: S) st o) : G k pc L (.int i :: .ref b :: S) st (gd (oz_in i 110) o) := by
  have hts := X.hts
  obtain ⟨rfl, ⟨hx, hb, hml, hown, -⟩, hK, hD, hA, hC, hKS, hBX, hNC, hUZ, hN, hstt, hlk, htab⟩ := X
  obtain ⟨hX, hbl, hbA, hxs⟩ := hscr
  intro ho H locs ls hP hS hl
  by_cases hi : oz_in i 110 = true
  · rw [gd, if_pos hi] at ho
    have hAA : ∀ q, va_A ([] : va_W) H.size q → A q := fun q h => h.elim (fun ⟨j, e1, hj⟩ => by simp at hj) (fun h => hA q (Nat.le_trans hS.1 h))
    refine va_calli (va_runS (As := [.ref b, .int i]) (rest := S) ⟨hx, hb, hml, hown, hts⟩ (mL_dice l b H.size xs i hi) (va_cwS 2 hts gL_law_L_dice rfl rfl rfl hL_dice hR) ⟨fun a U g mk q => ?_, fun U hU hW2 => ?_⟩ rfl rfl hl.1 rfl (lv_room hW) d ⟨hk1, hk2⟩) hS (fun q _ h => hAA q h) hAA (fun r u t H1 locs1 ht hvm hp hB hz hkeep hS1 => ?_)
    · obtain ⟨q0, q1, q2, q3⟩ := q
      exact ⟨q0, q1, va_X.moved (u := U) (U := U.calling g mk a) (Vm.Alike.refl U.vm) q2, q3⟩
    · refine ⟨rfl, by rw [hU], ?_, by rw [hU]; exact Nat.lt_of_lt_of_le hbl hS.1⟩
      rw [hU]
      exact va_X.moved hW2.alike (hX.kept (hS.2.1 b hbl hbA))
    · have hr9 : r = 9 := by rw [hp, hxs i hi]; decide
      subst hr9
      have hPn : oz_P D cI cZ ci ad ly st H1 := ⟨fun j q hj => (hP.1 j q hj).kept (hkeep q.1 (vx_lt hP.1 hj) (fun h => h.elim (fun ⟨j, e1, hj⟩ => by simp at hj) (fun h => by have := vx_lt hP.1 hj; omega))), Nat.le_trans hP.2 hz⟩
      exact kk hi ho H1 locs1 ls hPn hS1 hl
  · rw [gd, if_neg hi] at ho
    cases ho
end OD
