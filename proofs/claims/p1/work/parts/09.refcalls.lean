set_option maxHeartbeats 4000000 in
set_option maxRecDepth 100000 in
theorem c_X7_in (l : Launch) (dC : Nat → ClassId) (dI : Nat → Nat → Nat) (sz : Nat) (v0 : Int32) (lo : Int32) (hi : Int32) : Met l yX7_in pwX7_in ({ frames := 0, cells := 0, slots := 0, locals := 0 } : Room) (va_Pc [.int v0, .int lo, .int hi] (fun U => U.heap.size = sz ∧ va_P (dC, dI) vwCl [] U.heap ∧ va_K (dC, dI) vwCl [] U ∧ va_D (fun _ => True) [])) (va_Qi (fun (r : Int32) (_ : Unit) => r = pf_in v0 lo hi) (fun (_ : Unit) (t : State) => va_P (dC, dI) vwCl [] t.heap ∧ va_K (dC, dI) vwCl [] t ∧ va_D (va_A [] sz) []) (va_A [] sz)) 0 0 (va_A [] sz) := by
  refine Met.ofW (cc := cX7_in) (maxL := 3) (ret := (some .boolean)) (by decide) rfl ?_
  intro p e s m args below meth c s₁ B hml hv
  obtain ⟨rfl, hsz, hP, hK, hD0⟩ := hv
  have hx := B.exec
  have hb := B.bytes
  have hr := B.returns
  have hts0 := atoms_spec (ws := pwX7_in) B.pre
  have hts := fun w (h : w ∈ pwAll) => hts0 w (List.mem_cons_of_mem _ h)
  have hown : s.vm.findClass RX7 = some m.cls := findClass_of_methodNamed B.named
  have hlocks := B.notSynchronized
  subst hsz
  have hD := hD0.self (sz := s.heap.size)
  generalize hAe : va_A [] s.heap.size = A at hD ⊢
  have hA : ∀ q : Nat, s.heap.size ≤ q → A q := fun q h => by rw [← hAe]; exact Or.inr h
  have hS : va_S A s.heap s.heap [] := va_S.rf
  have hP : va_P (dC, dI) vwCl [] s.heap := hP
  have hl := lv_entry ([.int v0, .int lo, .int hi]) (n := 3) (Nat.le_of_ble_eq_true rfl)
  rw [lg_entry_eq]
  generalize (lg_sl ([.int v0, .int lo, .int hi]) ++ List.replicate (3 - (lg_sl ([.int v0, .int lo, .int hi])).length) Slot.unset).toArray = ls at hl ⊢
  have hl : lv_has ls 3 [(0, .int v0), (1, .int lo), (2, .int hi)] := hl
  refine lv_iload_n hx hb dX7_in_0 rfl (lv_at hl 0 rfl) ?_
  refine lv_iload_n hx hb dX7_in_1 rfl (lv_at hl 1 rfl) ?_
  refine lv_icmp_lt (tgt := 14) hx hb dX7_in_2 (by decide) (fun c_2 => ?_) (fun c_2 => ?_)
  · skip
    refine lv_iconst (v := 0) hx hb dX7_in_14 (by decide) ?_
    have hP9 := hP.sub (ws' := []) [] rfl
    have hD9 := hD.sub (ws' := []) [] (by decide) rfl
    have hK9 := hK.sub (tys' := []) [] rfl
    exact W.zret (v := 0) hx hb hr rfl (fun t ht hW => ⟨⟨0, (), rfl, by unfold pf_in; rw [if_pos c_2], by rw [ht]; exact hP9, va_K.moved hW.alike hK9, hD9⟩, hS.F ht⟩) hS.2.2 dX7_in_15
  · skip
    refine lv_iload_n hx hb dX7_in_5 rfl (lv_at hl 0 rfl) ?_
    refine lv_iload_n hx hb dX7_in_6 rfl (lv_at hl 2 rfl) ?_
    refine lv_icmp_gt (tgt := 14) hx hb dX7_in_7 (by decide) (fun c_7 => ?_) (fun c_7 => ?_)
    · skip
      refine lv_iconst (v := 0) hx hb dX7_in_14 (by decide) ?_
      have hP9 := hP.sub (ws' := []) [] rfl
      have hD9 := hD.sub (ws' := []) [] (by decide) rfl
      have hK9 := hK.sub (tys' := []) [] rfl
      exact W.zret (v := 0) hx hb hr rfl (fun t ht hW => ⟨⟨0, (), rfl, by unfold pf_in; rw [if_neg c_2, if_pos c_7], by rw [ht]; exact hP9, va_K.moved hW.alike hK9, hD9⟩, hS.F ht⟩) hS.2.2 dX7_in_15
    · skip
      refine lv_iconst (v := 1) hx hb dX7_in_10 (by decide) ?_
      refine lv_goto (tgt := 15) hx hb dX7_in_11 (by decide) ?_
      have hP9 := hP.sub (ws' := []) [] rfl
      have hD9 := hD.sub (ws' := []) [] (by decide) rfl
      have hK9 := hK.sub (tys' := []) [] rfl
      exact W.zret (v := 1) hx hb hr rfl (fun t ht hW => ⟨⟨1, (), rfl, by unfold pf_in; rw [if_neg c_2, if_neg c_7], by rw [ht]; exact hP9, va_K.moved hW.alike hK9, hD9⟩, hS.F ht⟩) hS.2.2 dX7_in_15

set_option maxHeartbeats 4000000 in
set_option maxRecDepth 100000 in
theorem c_X7_group (l : Launch) (dC : Nat → ClassId) (dI : Nat → Nat → Nat) (sz : Nat) (a0 : Nat) (m1 : Nat) (m2 : Nat) (m3 : Nat) (m4 : Nat) (m5 : Nat) (m6 : Nat) (m7 : Nat) (m8 : Nat) (m9 : Nat) (m10 : Nat) (m11 : Nat) (m12 : Nat) (m13 : Nat) (m14 : Nat) (m15 : Nat) (m16 : Nat) (k0 : Int32) (k1 : Int32) : Met l yX7_group pwX7_group ({ frames := 0, cells := 0, slots := 0, locals := 0 } : Room) (va_Pc [.ref a0, .int k0, .int k1] (fun U => U.heap.size = sz ∧ va_P (dC, dI) vwCl [(a0, .inr (7, [.int 0, .ref m1, .int 0, .int (-1), .int 0, .int 0, .int 0, .ref m2, .int 0, .int 0, .ref m3, .ref m4, .ref m5, .ref m6, .ref m7, .ref m8, .ref m9, .int 0, .ref m10, .ref m11, .ref m12, .int 0, .ref m13, .ref m14, .ref m15, .int 0, .ref m16, .int 0, .int 0]))] U.heap ∧ va_K (dC, dI) vwCl [] U ∧ va_D (fun _ => True) [(a0, .inr (7, [.int 0, .ref m1, .int 0, .int (-1), .int 0, .int 0, .int 0, .ref m2, .int 0, .int 0, .ref m3, .ref m4, .ref m5, .ref m6, .ref m7, .ref m8, .ref m9, .int 0, .ref m10, .ref m11, .ref m12, .int 0, .ref m13, .ref m14, .ref m15, .int 0, .ref m16, .int 0, .int 0]))])) (va_Qi (fun (r : Int32) (_ : Unit) => r = (-4)) (fun (_ : Unit) (t : State) => va_P (dC, dI) vwCl [] t.heap ∧ va_K (dC, dI) vwCl [] t ∧ va_D (va_A [(a0, .inr (7, [.int 0, .ref m1, .int 0, .int (-1), .int 0, .int 0, .int 0, .ref m2, .int 0, .int 0, .ref m3, .ref m4, .ref m5, .ref m6, .ref m7, .ref m8, .ref m9, .int 0, .ref m10, .ref m11, .ref m12, .int 0, .ref m13, .ref m14, .ref m15, .int 0, .ref m16, .int 0, .int 0]))] sz) []) (va_A [(a0, .inr (7, [.int 0, .ref m1, .int 0, .int (-1), .int 0, .int 0, .int 0, .ref m2, .int 0, .int 0, .ref m3, .ref m4, .ref m5, .ref m6, .ref m7, .ref m8, .ref m9, .int 0, .ref m10, .ref m11, .ref m12, .int 0, .ref m13, .ref m14, .ref m15, .int 0, .ref m16, .int 0, .int 0]))] sz)) 0 0 (va_A [(a0, .inr (7, [.int 0, .ref m1, .int 0, .int (-1), .int 0, .int 0, .int 0, .ref m2, .int 0, .int 0, .ref m3, .ref m4, .ref m5, .ref m6, .ref m7, .ref m8, .ref m9, .int 0, .ref m10, .ref m11, .ref m12, .int 0, .ref m13, .ref m14, .ref m15, .int 0, .ref m16, .int 0, .int 0]))] sz) := by
  refine Met.ofW (cc := cX7_group) (maxL := 4) (ret := (some .int)) (by decide) rfl ?_
  intro p e s m args below meth c s₁ B hml hv
  obtain ⟨rfl, hsz, hP, hK, hD0⟩ := hv
  have hx := B.exec
  have hb := B.bytes
  have hr := B.returns
  have hts0 := atoms_spec (ws := pwX7_group) B.pre
  have hts := fun w (h : w ∈ pwAll) => hts0 w (List.mem_cons_of_mem _ h)
  have hown : s.vm.findClass RX7 = some m.cls := findClass_of_methodNamed B.named
  have hlocks := B.notSynchronized
  subst hsz
  have hD := hD0.self (sz := s.heap.size)
  generalize hAe : va_A [(a0, .inr (7, [.int 0, .ref m1, .int 0, .int (-1), .int 0, .int 0, .int 0, .ref m2, .int 0, .int 0, .ref m3, .ref m4, .ref m5, .ref m6, .ref m7, .ref m8, .ref m9, .int 0, .ref m10, .ref m11, .ref m12, .int 0, .ref m13, .ref m14, .ref m15, .int 0, .ref m16, .int 0, .int 0]))] s.heap.size = A at hD ⊢
  have hA : ∀ q : Nat, s.heap.size ≤ q → A q := fun q h => by rw [← hAe]; exact Or.inr h
  have hS : va_S A s.heap s.heap [] := va_S.rf
  have hP : va_P (dC, dI) vwCl [(a0, .inr (7, [.int 0, .ref m1, .int 0, .int (-1), .int 0, .int 0, .int 0, .ref m2, .int 0, .int 0, .ref m3, .ref m4, .ref m5, .ref m6, .ref m7, .ref m8, .ref m9, .int 0, .ref m10, .ref m11, .ref m12, .int 0, .ref m13, .ref m14, .ref m15, .int 0, .ref m16, .int 0, .int 0]))] s.heap := hP
  have hl := lv_entry ([.ref a0, .int k0, .int k1]) (n := 4) (Nat.le_of_ble_eq_true rfl)
  rw [lg_entry_eq]
  generalize (lg_sl ([.ref a0, .int k0, .int k1]) ++ List.replicate (4 - (lg_sl ([.ref a0, .int k0, .int k1])).length) Slot.unset).toArray = ls at hl ⊢
  have hl : lv_has ls 4 [(0, .ref a0), (1, .int k0), (2, .int k1)] := hl
  refine lv_aload_n hx hb dX7_group_0 rfl (lv_at hl 0 rfl) ?_
  refine va_get (D := (dC, dI)) (ci := 7) (v := .int 0) (C := RX7) (T := TX7) (N := 29) hx hb hts inAll_7 hown hK hP 0 rfl rfl 2 (by decide) (hts (.fieldLink RX7 119 "LoopEnvelopesModel" "isTaken" "Z") k_170) (fun _ h9 => h9) rfl dX7_group_1 ?_
  refine lv_if_ne (tgt := 10) hx hb dX7_group_4 (by decide) (fun c_4 => absurd (rfl) c_4) (fun c_4 => ?_)
  refine lv_bipush (v := (-4)) hx hb dX7_group_7 (by decide) ?_
  have hP9 := hP.sub (ws' := []) [] rfl
  have hD9 := hD.sub (ws' := []) [] (by decide) rfl
  have hK9 := hK.sub (tys' := []) [] rfl
  exact W.iret (v := (-4)) hx hb hr (fun t ht hW => ⟨⟨(-4), (), rfl, rfl, by rw [ht]; exact hP9, va_K.moved hW.alike hK9, hD9⟩, hS.F ht⟩) hS.2.2 dX7_group_9

set_option maxHeartbeats 4000000 in
set_option maxRecDepth 100000 in
theorem c_X7_setOf (l : Launch) (dC : Nat → ClassId) (dI : Nat → Nat → Nat) (sz : Nat) (a0 : Nat) (m1 : Nat) (m2 : Nat) (m3 : Nat) (m4 : Nat) (m5 : Nat) (m6 : Nat) (m7 : Nat) (m8 : Nat) (m9 : Nat) (m10 : Nat) (m11 : Nat) (m12 : Nat) (m13 : Nat) (m14 : Nat) (m15 : Nat) (m16 : Nat) (k0 : Int32) (k1 : Int32) : Met l yX7_setOf pwX7_setOf ({ frames := 0, cells := 0, slots := 0, locals := 0 } : Room) (va_Pc [.ref a0, .int k0, .int k1] (fun U => U.heap.size = sz ∧ va_P (dC, dI) vwCl [(a0, .inr (7, [.int 0, .ref m1, .int 0, .int (-1), .int 0, .int 0, .int 0, .ref m2, .int 0, .int 0, .ref m3, .ref m4, .ref m5, .ref m6, .ref m7, .ref m8, .ref m9, .int 0, .ref m10, .ref m11, .ref m12, .int 0, .ref m13, .ref m14, .ref m15, .int 0, .ref m16, .int 0, .int 0]))] U.heap ∧ va_K (dC, dI) vwCl [] U ∧ va_D (fun _ => True) [(a0, .inr (7, [.int 0, .ref m1, .int 0, .int (-1), .int 0, .int 0, .int 0, .ref m2, .int 0, .int 0, .ref m3, .ref m4, .ref m5, .ref m6, .ref m7, .ref m8, .ref m9, .int 0, .ref m10, .ref m11, .ref m12, .int 0, .ref m13, .ref m14, .ref m15, .int 0, .ref m16, .int 0, .int 0]))])) (va_Qi (fun (r : Int32) (_ : Unit) => r = (-4)) (fun (_ : Unit) (t : State) => va_P (dC, dI) vwCl [] t.heap ∧ va_K (dC, dI) vwCl [] t ∧ va_D (va_A [(a0, .inr (7, [.int 0, .ref m1, .int 0, .int (-1), .int 0, .int 0, .int 0, .ref m2, .int 0, .int 0, .ref m3, .ref m4, .ref m5, .ref m6, .ref m7, .ref m8, .ref m9, .int 0, .ref m10, .ref m11, .ref m12, .int 0, .ref m13, .ref m14, .ref m15, .int 0, .ref m16, .int 0, .int 0]))] sz) []) (va_A [(a0, .inr (7, [.int 0, .ref m1, .int 0, .int (-1), .int 0, .int 0, .int 0, .ref m2, .int 0, .int 0, .ref m3, .ref m4, .ref m5, .ref m6, .ref m7, .ref m8, .ref m9, .int 0, .ref m10, .ref m11, .ref m12, .int 0, .ref m13, .ref m14, .ref m15, .int 0, .ref m16, .int 0, .int 0]))] sz)) 0 0 (va_A [(a0, .inr (7, [.int 0, .ref m1, .int 0, .int (-1), .int 0, .int 0, .int 0, .ref m2, .int 0, .int 0, .ref m3, .ref m4, .ref m5, .ref m6, .ref m7, .ref m8, .ref m9, .int 0, .ref m10, .ref m11, .ref m12, .int 0, .ref m13, .ref m14, .ref m15, .int 0, .ref m16, .int 0, .int 0]))] sz) := by
  refine Met.ofW (cc := cX7_setOf) (maxL := 7) (ret := (some .int)) (by decide) rfl ?_
  intro p e s m args below meth c s₁ B hml hv
  obtain ⟨rfl, hsz, hP, hK, hD0⟩ := hv
  have hx := B.exec
  have hb := B.bytes
  have hr := B.returns
  have hts0 := atoms_spec (ws := pwX7_setOf) B.pre
  have hts := fun w (h : w ∈ pwAll) => hts0 w (List.mem_cons_of_mem _ h)
  have hown : s.vm.findClass RX7 = some m.cls := findClass_of_methodNamed B.named
  have hlocks := B.notSynchronized
  subst hsz
  have hD := hD0.self (sz := s.heap.size)
  generalize hAe : va_A [(a0, .inr (7, [.int 0, .ref m1, .int 0, .int (-1), .int 0, .int 0, .int 0, .ref m2, .int 0, .int 0, .ref m3, .ref m4, .ref m5, .ref m6, .ref m7, .ref m8, .ref m9, .int 0, .ref m10, .ref m11, .ref m12, .int 0, .ref m13, .ref m14, .ref m15, .int 0, .ref m16, .int 0, .int 0]))] s.heap.size = A at hD ⊢
  have hA : ∀ q : Nat, s.heap.size ≤ q → A q := fun q h => by rw [← hAe]; exact Or.inr h
  have hS : va_S A s.heap s.heap [] := va_S.rf
  have hP : va_P (dC, dI) vwCl [(a0, .inr (7, [.int 0, .ref m1, .int 0, .int (-1), .int 0, .int 0, .int 0, .ref m2, .int 0, .int 0, .ref m3, .ref m4, .ref m5, .ref m6, .ref m7, .ref m8, .ref m9, .int 0, .ref m10, .ref m11, .ref m12, .int 0, .ref m13, .ref m14, .ref m15, .int 0, .ref m16, .int 0, .int 0]))] s.heap := hP
  have hl := lv_entry ([.ref a0, .int k0, .int k1]) (n := 7) (Nat.le_of_ble_eq_true rfl)
  rw [lg_entry_eq]
  generalize (lg_sl ([.ref a0, .int k0, .int k1]) ++ List.replicate (7 - (lg_sl ([.ref a0, .int k0, .int k1])).length) Slot.unset).toArray = ls at hl ⊢
  have hl : lv_has ls 7 [(0, .ref a0), (1, .int k0), (2, .int k1)] := hl
  refine lv_aload_n hx hb dX7_setOf_0 rfl (lv_at hl 0 rfl) ?_
  refine va_get (D := (dC, dI)) (ci := 7) (v := .int 0) (C := RX7) (T := TX7) (N := 29) hx hb hts inAll_7 hown hK hP 0 rfl rfl 2 (by decide) (hts (.fieldLink RX7 119 "LoopEnvelopesModel" "isTaken" "Z") k_170) (fun _ h9 => h9) rfl dX7_setOf_1 ?_
  refine lv_if_ne (tgt := 10) hx hb dX7_setOf_4 (by decide) (fun c_4 => absurd (rfl) c_4) (fun c_4 => ?_)
  refine lv_bipush (v := (-4)) hx hb dX7_setOf_7 (by decide) ?_
  have hP9 := hP.sub (ws' := []) [] rfl
  have hD9 := hD.sub (ws' := []) [] (by decide) rfl
  have hK9 := hK.sub (tys' := []) [] rfl
  exact W.iret (v := (-4)) hx hb hr (fun t ht hW => ⟨⟨(-4), (), rfl, rfl, by rw [ht]; exact hP9, va_K.moved hW.alike hK9, hD9⟩, hS.F ht⟩) hS.2.2 dX7_setOf_9

set_option maxHeartbeats 4000000 in
set_option maxRecDepth 100000 in
theorem c_X7_fault (l : Launch) (dC : Nat → ClassId) (dI : Nat → Nat → Nat) (sz : Nat) (a0 : Nat) (m1 : Nat) (m2 : Nat) (m3 : Nat) (m4 : Nat) (m5 : Nat) (m6 : Nat) (m7 : Nat) (m8 : Nat) (m9 : Nat) (m10 : Nat) (m11 : Nat) (m12 : Nat) (m13 : Nat) (m14 : Nat) (m15 : Nat) (m16 : Nat) (k0 : Int32) (k1 : Int32) (k2 : Int32) : Met l yX7_fault pwX7_fault ({ frames := 0, cells := 0, slots := 0, locals := 0 } : Room) (va_Pc [.ref a0, .int k0, .int k1, .int k2] (fun U => U.heap.size = sz ∧ va_P (dC, dI) vwCl [(a0, .inr (7, [.int 0, .ref m1, .int 0, .int (-1), .int 0, .int 0, .int 0, .ref m2, .int 0, .int 0, .ref m3, .ref m4, .ref m5, .ref m6, .ref m7, .ref m8, .ref m9, .int 0, .ref m10, .ref m11, .ref m12, .int 0, .ref m13, .ref m14, .ref m15, .int 0, .ref m16, .int 0, .int 0]))] U.heap ∧ va_K (dC, dI) vwCl [] U ∧ va_D (fun _ => True) [(a0, .inr (7, [.int 0, .ref m1, .int 0, .int (-1), .int 0, .int 0, .int 0, .ref m2, .int 0, .int 0, .ref m3, .ref m4, .ref m5, .ref m6, .ref m7, .ref m8, .ref m9, .int 0, .ref m10, .ref m11, .ref m12, .int 0, .ref m13, .ref m14, .ref m15, .int 0, .ref m16, .int 0, .int 0]))])) (va_Qi (fun (r : Int32) (_ : Unit) => r = (-4)) (fun (_ : Unit) (t : State) => va_P (dC, dI) vwCl [] t.heap ∧ va_K (dC, dI) vwCl [] t ∧ va_D (va_A [(a0, .inr (7, [.int 0, .ref m1, .int 0, .int (-1), .int 0, .int 0, .int 0, .ref m2, .int 0, .int 0, .ref m3, .ref m4, .ref m5, .ref m6, .ref m7, .ref m8, .ref m9, .int 0, .ref m10, .ref m11, .ref m12, .int 0, .ref m13, .ref m14, .ref m15, .int 0, .ref m16, .int 0, .int 0]))] sz) []) (va_A [(a0, .inr (7, [.int 0, .ref m1, .int 0, .int (-1), .int 0, .int 0, .int 0, .ref m2, .int 0, .int 0, .ref m3, .ref m4, .ref m5, .ref m6, .ref m7, .ref m8, .ref m9, .int 0, .ref m10, .ref m11, .ref m12, .int 0, .ref m13, .ref m14, .ref m15, .int 0, .ref m16, .int 0, .int 0]))] sz)) 0 0 (va_A [(a0, .inr (7, [.int 0, .ref m1, .int 0, .int (-1), .int 0, .int 0, .int 0, .ref m2, .int 0, .int 0, .ref m3, .ref m4, .ref m5, .ref m6, .ref m7, .ref m8, .ref m9, .int 0, .ref m10, .ref m11, .ref m12, .int 0, .ref m13, .ref m14, .ref m15, .int 0, .ref m16, .int 0, .int 0]))] sz) := by
  refine Met.ofW (cc := cX7_fault) (maxL := 5) (ret := (some .int)) (by decide) rfl ?_
  intro p e s m args below meth c s₁ B hml hv
  obtain ⟨rfl, hsz, hP, hK, hD0⟩ := hv
  have hx := B.exec
  have hb := B.bytes
  have hr := B.returns
  have hts0 := atoms_spec (ws := pwX7_fault) B.pre
  have hts := fun w (h : w ∈ pwAll) => hts0 w (List.mem_cons_of_mem _ h)
  have hown : s.vm.findClass RX7 = some m.cls := findClass_of_methodNamed B.named
  have hlocks := B.notSynchronized
  subst hsz
  have hD := hD0.self (sz := s.heap.size)
  generalize hAe : va_A [(a0, .inr (7, [.int 0, .ref m1, .int 0, .int (-1), .int 0, .int 0, .int 0, .ref m2, .int 0, .int 0, .ref m3, .ref m4, .ref m5, .ref m6, .ref m7, .ref m8, .ref m9, .int 0, .ref m10, .ref m11, .ref m12, .int 0, .ref m13, .ref m14, .ref m15, .int 0, .ref m16, .int 0, .int 0]))] s.heap.size = A at hD ⊢
  have hA : ∀ q : Nat, s.heap.size ≤ q → A q := fun q h => by rw [← hAe]; exact Or.inr h
  have hS : va_S A s.heap s.heap [] := va_S.rf
  have hP : va_P (dC, dI) vwCl [(a0, .inr (7, [.int 0, .ref m1, .int 0, .int (-1), .int 0, .int 0, .int 0, .ref m2, .int 0, .int 0, .ref m3, .ref m4, .ref m5, .ref m6, .ref m7, .ref m8, .ref m9, .int 0, .ref m10, .ref m11, .ref m12, .int 0, .ref m13, .ref m14, .ref m15, .int 0, .ref m16, .int 0, .int 0]))] s.heap := hP
  have hl := lv_entry ([.ref a0, .int k0, .int k1, .int k2]) (n := 5) (Nat.le_of_ble_eq_true rfl)
  rw [lg_entry_eq]
  generalize (lg_sl ([.ref a0, .int k0, .int k1, .int k2]) ++ List.replicate (5 - (lg_sl ([.ref a0, .int k0, .int k1, .int k2])).length) Slot.unset).toArray = ls at hl ⊢
  have hl : lv_has ls 5 [(0, .ref a0), (1, .int k0), (2, .int k1), (3, .int k2)] := hl
  refine lv_aload_n hx hb dX7_fault_0 rfl (lv_at hl 0 rfl) ?_
  refine va_get (D := (dC, dI)) (ci := 7) (v := .int 0) (C := RX7) (T := TX7) (N := 29) hx hb hts inAll_7 hown hK hP 0 rfl rfl 2 (by decide) (hts (.fieldLink RX7 119 "LoopEnvelopesModel" "isTaken" "Z") k_170) (fun _ h9 => h9) rfl dX7_fault_1 ?_
  refine lv_if_ne (tgt := 10) hx hb dX7_fault_4 (by decide) (fun c_4 => absurd (rfl) c_4) (fun c_4 => ?_)
  refine lv_bipush (v := (-4)) hx hb dX7_fault_7 (by decide) ?_
  have hP9 := hP.sub (ws' := []) [] rfl
  have hD9 := hD.sub (ws' := []) [] (by decide) rfl
  have hK9 := hK.sub (tys' := []) [] rfl
  exact W.iret (v := (-4)) hx hb hr (fun t ht hW => ⟨⟨(-4), (), rfl, rfl, by rw [ht]; exact hP9, va_K.moved hW.alike hK9, hD9⟩, hS.F ht⟩) hS.2.2 dX7_fault_9

set_option maxHeartbeats 4000000 in
set_option maxRecDepth 100000 in
theorem c_X7_level (l : Launch) (dC : Nat → ClassId) (dI : Nat → Nat → Nat) (sz : Nat) (a0 : Nat) (m1 : Nat) (m2 : Nat) (m3 : Nat) (m4 : Nat) (m5 : Nat) (m6 : Nat) (m7 : Nat) (m8 : Nat) (m9 : Nat) (m10 : Nat) (m11 : Nat) (m12 : Nat) (m13 : Nat) (m14 : Nat) (m15 : Nat) (m16 : Nat) (k0 : Int32) (k1 : Int32) (k2 : Int32) : Met l yX7_level pwX7_level ({ frames := 0, cells := 0, slots := 0, locals := 0 } : Room) (va_Pc [.ref a0, .int k0, .int k1, .int k2] (fun U => U.heap.size = sz ∧ va_P (dC, dI) vwCl [(a0, .inr (7, [.int 0, .ref m1, .int 0, .int (-1), .int 0, .int 0, .int 0, .ref m2, .int 0, .int 0, .ref m3, .ref m4, .ref m5, .ref m6, .ref m7, .ref m8, .ref m9, .int 0, .ref m10, .ref m11, .ref m12, .int 0, .ref m13, .ref m14, .ref m15, .int 0, .ref m16, .int 0, .int 0]))] U.heap ∧ va_K (dC, dI) vwCl [] U ∧ va_D (fun _ => True) [(a0, .inr (7, [.int 0, .ref m1, .int 0, .int (-1), .int 0, .int 0, .int 0, .ref m2, .int 0, .int 0, .ref m3, .ref m4, .ref m5, .ref m6, .ref m7, .ref m8, .ref m9, .int 0, .ref m10, .ref m11, .ref m12, .int 0, .ref m13, .ref m14, .ref m15, .int 0, .ref m16, .int 0, .int 0]))])) (va_Qi (fun (r : Int32) (_ : Unit) => r = (-4)) (fun (_ : Unit) (t : State) => va_P (dC, dI) vwCl [] t.heap ∧ va_K (dC, dI) vwCl [] t ∧ va_D (va_A [(a0, .inr (7, [.int 0, .ref m1, .int 0, .int (-1), .int 0, .int 0, .int 0, .ref m2, .int 0, .int 0, .ref m3, .ref m4, .ref m5, .ref m6, .ref m7, .ref m8, .ref m9, .int 0, .ref m10, .ref m11, .ref m12, .int 0, .ref m13, .ref m14, .ref m15, .int 0, .ref m16, .int 0, .int 0]))] sz) []) (va_A [(a0, .inr (7, [.int 0, .ref m1, .int 0, .int (-1), .int 0, .int 0, .int 0, .ref m2, .int 0, .int 0, .ref m3, .ref m4, .ref m5, .ref m6, .ref m7, .ref m8, .ref m9, .int 0, .ref m10, .ref m11, .ref m12, .int 0, .ref m13, .ref m14, .ref m15, .int 0, .ref m16, .int 0, .int 0]))] sz)) 0 0 (va_A [(a0, .inr (7, [.int 0, .ref m1, .int 0, .int (-1), .int 0, .int 0, .int 0, .ref m2, .int 0, .int 0, .ref m3, .ref m4, .ref m5, .ref m6, .ref m7, .ref m8, .ref m9, .int 0, .ref m10, .ref m11, .ref m12, .int 0, .ref m13, .ref m14, .ref m15, .int 0, .ref m16, .int 0, .int 0]))] sz) := by
  refine Met.ofW (cc := cX7_level) (maxL := 5) (ret := (some .int)) (by decide) rfl ?_
  intro p e s m args below meth c s₁ B hml hv
  obtain ⟨rfl, hsz, hP, hK, hD0⟩ := hv
  have hx := B.exec
  have hb := B.bytes
  have hr := B.returns
  have hts0 := atoms_spec (ws := pwX7_level) B.pre
  have hts := fun w (h : w ∈ pwAll) => hts0 w (List.mem_cons_of_mem _ h)
  have hown : s.vm.findClass RX7 = some m.cls := findClass_of_methodNamed B.named
  have hlocks := B.notSynchronized
  subst hsz
  have hD := hD0.self (sz := s.heap.size)
  generalize hAe : va_A [(a0, .inr (7, [.int 0, .ref m1, .int 0, .int (-1), .int 0, .int 0, .int 0, .ref m2, .int 0, .int 0, .ref m3, .ref m4, .ref m5, .ref m6, .ref m7, .ref m8, .ref m9, .int 0, .ref m10, .ref m11, .ref m12, .int 0, .ref m13, .ref m14, .ref m15, .int 0, .ref m16, .int 0, .int 0]))] s.heap.size = A at hD ⊢
  have hA : ∀ q : Nat, s.heap.size ≤ q → A q := fun q h => by rw [← hAe]; exact Or.inr h
  have hS : va_S A s.heap s.heap [] := va_S.rf
  have hP : va_P (dC, dI) vwCl [(a0, .inr (7, [.int 0, .ref m1, .int 0, .int (-1), .int 0, .int 0, .int 0, .ref m2, .int 0, .int 0, .ref m3, .ref m4, .ref m5, .ref m6, .ref m7, .ref m8, .ref m9, .int 0, .ref m10, .ref m11, .ref m12, .int 0, .ref m13, .ref m14, .ref m15, .int 0, .ref m16, .int 0, .int 0]))] s.heap := hP
  have hl := lv_entry ([.ref a0, .int k0, .int k1, .int k2]) (n := 5) (Nat.le_of_ble_eq_true rfl)
  rw [lg_entry_eq]
  generalize (lg_sl ([.ref a0, .int k0, .int k1, .int k2]) ++ List.replicate (5 - (lg_sl ([.ref a0, .int k0, .int k1, .int k2])).length) Slot.unset).toArray = ls at hl ⊢
  have hl : lv_has ls 5 [(0, .ref a0), (1, .int k0), (2, .int k1), (3, .int k2)] := hl
  refine lv_aload_n hx hb dX7_level_0 rfl (lv_at hl 0 rfl) ?_
  refine va_get (D := (dC, dI)) (ci := 7) (v := .int 0) (C := RX7) (T := TX7) (N := 29) hx hb hts inAll_7 hown hK hP 0 rfl rfl 2 (by decide) (hts (.fieldLink RX7 119 "LoopEnvelopesModel" "isTaken" "Z") k_170) (fun _ h9 => h9) rfl dX7_level_1 ?_
  refine lv_if_ne (tgt := 10) hx hb dX7_level_4 (by decide) (fun c_4 => absurd (rfl) c_4) (fun c_4 => ?_)
  refine lv_bipush (v := (-4)) hx hb dX7_level_7 (by decide) ?_
  have hP9 := hP.sub (ws' := []) [] rfl
  have hD9 := hD.sub (ws' := []) [] (by decide) rfl
  have hK9 := hK.sub (tys' := []) [] rfl
  exact W.iret (v := (-4)) hx hb hr (fun t ht hW => ⟨⟨(-4), (), rfl, rfl, by rw [ht]; exact hP9, va_K.moved hW.alike hK9, hD9⟩, hS.F ht⟩) hS.2.2 dX7_level_9

set_option maxHeartbeats 4000000 in
set_option maxRecDepth 100000 in
theorem c_X7_claim (l : Launch) (dC : Nat → ClassId) (dI : Nat → Nat → Nat) (sz : Nat) (a0 : Nat) (m1 : Nat) (m2 : Nat) (m3 : Nat) (m4 : Nat) (m5 : Nat) (m6 : Nat) (m7 : Nat) (m8 : Nat) (m9 : Nat) (m10 : Nat) (m11 : Nat) (m12 : Nat) (m13 : Nat) (m14 : Nat) (m15 : Nat) (m16 : Nat) (k0 : Int32) (k1 : Int32) (k2 : Int32) : Met l yX7_claim pwX7_claim ({ frames := 0, cells := 0, slots := 0, locals := 0 } : Room) (va_Pc [.ref a0, .int k0, .int k1, .int k2] (fun U => U.heap.size = sz ∧ va_P (dC, dI) vwCl [(a0, .inr (7, [.int 0, .ref m1, .int 0, .int (-1), .int 0, .int 0, .int 0, .ref m2, .int 0, .int 0, .ref m3, .ref m4, .ref m5, .ref m6, .ref m7, .ref m8, .ref m9, .int 0, .ref m10, .ref m11, .ref m12, .int 0, .ref m13, .ref m14, .ref m15, .int 0, .ref m16, .int 0, .int 0]))] U.heap ∧ va_K (dC, dI) vwCl [] U ∧ va_D (fun _ => True) [(a0, .inr (7, [.int 0, .ref m1, .int 0, .int (-1), .int 0, .int 0, .int 0, .ref m2, .int 0, .int 0, .ref m3, .ref m4, .ref m5, .ref m6, .ref m7, .ref m8, .ref m9, .int 0, .ref m10, .ref m11, .ref m12, .int 0, .ref m13, .ref m14, .ref m15, .int 0, .ref m16, .int 0, .int 0]))])) (va_Qi (fun (r : Int32) (_ : Unit) => r = (-4)) (fun (_ : Unit) (t : State) => va_P (dC, dI) vwCl [] t.heap ∧ va_K (dC, dI) vwCl [] t ∧ va_D (va_A [(a0, .inr (7, [.int 0, .ref m1, .int 0, .int (-1), .int 0, .int 0, .int 0, .ref m2, .int 0, .int 0, .ref m3, .ref m4, .ref m5, .ref m6, .ref m7, .ref m8, .ref m9, .int 0, .ref m10, .ref m11, .ref m12, .int 0, .ref m13, .ref m14, .ref m15, .int 0, .ref m16, .int 0, .int 0]))] sz) []) (va_A [(a0, .inr (7, [.int 0, .ref m1, .int 0, .int (-1), .int 0, .int 0, .int 0, .ref m2, .int 0, .int 0, .ref m3, .ref m4, .ref m5, .ref m6, .ref m7, .ref m8, .ref m9, .int 0, .ref m10, .ref m11, .ref m12, .int 0, .ref m13, .ref m14, .ref m15, .int 0, .ref m16, .int 0, .int 0]))] sz)) 0 0 (va_A [(a0, .inr (7, [.int 0, .ref m1, .int 0, .int (-1), .int 0, .int 0, .int 0, .ref m2, .int 0, .int 0, .ref m3, .ref m4, .ref m5, .ref m6, .ref m7, .ref m8, .ref m9, .int 0, .ref m10, .ref m11, .ref m12, .int 0, .ref m13, .ref m14, .ref m15, .int 0, .ref m16, .int 0, .int 0]))] sz) := by
  refine Met.ofW (cc := cX7_claim) (maxL := 7) (ret := (some .int)) (by decide) rfl ?_
  intro p e s m args below meth c s₁ B hml hv
  obtain ⟨rfl, hsz, hP, hK, hD0⟩ := hv
  have hx := B.exec
  have hb := B.bytes
  have hr := B.returns
  have hts0 := atoms_spec (ws := pwX7_claim) B.pre
  have hts := fun w (h : w ∈ pwAll) => hts0 w (List.mem_cons_of_mem _ h)
  have hown : s.vm.findClass RX7 = some m.cls := findClass_of_methodNamed B.named
  have hlocks := B.notSynchronized
  subst hsz
  have hD := hD0.self (sz := s.heap.size)
  generalize hAe : va_A [(a0, .inr (7, [.int 0, .ref m1, .int 0, .int (-1), .int 0, .int 0, .int 0, .ref m2, .int 0, .int 0, .ref m3, .ref m4, .ref m5, .ref m6, .ref m7, .ref m8, .ref m9, .int 0, .ref m10, .ref m11, .ref m12, .int 0, .ref m13, .ref m14, .ref m15, .int 0, .ref m16, .int 0, .int 0]))] s.heap.size = A at hD ⊢
  have hA : ∀ q : Nat, s.heap.size ≤ q → A q := fun q h => by rw [← hAe]; exact Or.inr h
  have hS : va_S A s.heap s.heap [] := va_S.rf
  have hP : va_P (dC, dI) vwCl [(a0, .inr (7, [.int 0, .ref m1, .int 0, .int (-1), .int 0, .int 0, .int 0, .ref m2, .int 0, .int 0, .ref m3, .ref m4, .ref m5, .ref m6, .ref m7, .ref m8, .ref m9, .int 0, .ref m10, .ref m11, .ref m12, .int 0, .ref m13, .ref m14, .ref m15, .int 0, .ref m16, .int 0, .int 0]))] s.heap := hP
  have hl := lv_entry ([.ref a0, .int k0, .int k1, .int k2]) (n := 7) (Nat.le_of_ble_eq_true rfl)
  rw [lg_entry_eq]
  generalize (lg_sl ([.ref a0, .int k0, .int k1, .int k2]) ++ List.replicate (7 - (lg_sl ([.ref a0, .int k0, .int k1, .int k2])).length) Slot.unset).toArray = ls at hl ⊢
  have hl : lv_has ls 7 [(0, .ref a0), (1, .int k0), (2, .int k1), (3, .int k2)] := hl
  refine lv_aload_n hx hb dX7_claim_0 rfl (lv_at hl 0 rfl) ?_
  refine va_get (D := (dC, dI)) (ci := 7) (v := .int 0) (C := RX7) (T := TX7) (N := 29) hx hb hts inAll_7 hown hK hP 0 rfl rfl 2 (by decide) (hts (.fieldLink RX7 119 "LoopEnvelopesModel" "isTaken" "Z") k_170) (fun _ h9 => h9) rfl dX7_claim_1 ?_
  refine lv_if_ne (tgt := 10) hx hb dX7_claim_4 (by decide) (fun c_4 => absurd (rfl) c_4) (fun c_4 => ?_)
  refine lv_bipush (v := (-4)) hx hb dX7_claim_7 (by decide) ?_
  have hP9 := hP.sub (ws' := []) [] rfl
  have hD9 := hD.sub (ws' := []) [] (by decide) rfl
  have hK9 := hK.sub (tys' := []) [] rfl
  exact W.iret (v := (-4)) hx hb hr (fun t ht hW => ⟨⟨(-4), (), rfl, rfl, by rw [ht]; exact hP9, va_K.moved hW.alike hK9, hD9⟩, hS.F ht⟩) hS.2.2 dX7_claim_9

set_option maxHeartbeats 4000000 in
set_option maxRecDepth 100000 in
theorem c_X7_size (l : Launch) (dC : Nat → ClassId) (dI : Nat → Nat → Nat) (sz : Nat) (a0 : Nat) (m1 : Nat) (m2 : Nat) (m3 : Nat) (m4 : Nat) (m5 : Nat) (m6 : Nat) (m7 : Nat) (m8 : Nat) (m9 : Nat) (m10 : Nat) (m11 : Nat) (m12 : Nat) (m13 : Nat) (m14 : Nat) (m15 : Nat) (m16 : Nat) (k0 : Int32) (k1 : Int32) : Met l yX7_size pwX7_size ({ frames := 0, cells := 0, slots := 0, locals := 0 } : Room) (va_Pc [.ref a0, .int k0, .int k1] (fun U => U.heap.size = sz ∧ va_P (dC, dI) vwCl [(a0, .inr (7, [.int 0, .ref m1, .int 0, .int (-1), .int 0, .int 0, .int 0, .ref m2, .int 0, .int 0, .ref m3, .ref m4, .ref m5, .ref m6, .ref m7, .ref m8, .ref m9, .int 0, .ref m10, .ref m11, .ref m12, .int 0, .ref m13, .ref m14, .ref m15, .int 0, .ref m16, .int 0, .int 0]))] U.heap ∧ va_K (dC, dI) vwCl [] U ∧ va_D (fun _ => True) [(a0, .inr (7, [.int 0, .ref m1, .int 0, .int (-1), .int 0, .int 0, .int 0, .ref m2, .int 0, .int 0, .ref m3, .ref m4, .ref m5, .ref m6, .ref m7, .ref m8, .ref m9, .int 0, .ref m10, .ref m11, .ref m12, .int 0, .ref m13, .ref m14, .ref m15, .int 0, .ref m16, .int 0, .int 0]))])) (va_Qi (fun (r : Int32) (_ : Unit) => r = (-4)) (fun (_ : Unit) (t : State) => va_P (dC, dI) vwCl [] t.heap ∧ va_K (dC, dI) vwCl [] t ∧ va_D (va_A [(a0, .inr (7, [.int 0, .ref m1, .int 0, .int (-1), .int 0, .int 0, .int 0, .ref m2, .int 0, .int 0, .ref m3, .ref m4, .ref m5, .ref m6, .ref m7, .ref m8, .ref m9, .int 0, .ref m10, .ref m11, .ref m12, .int 0, .ref m13, .ref m14, .ref m15, .int 0, .ref m16, .int 0, .int 0]))] sz) []) (va_A [(a0, .inr (7, [.int 0, .ref m1, .int 0, .int (-1), .int 0, .int 0, .int 0, .ref m2, .int 0, .int 0, .ref m3, .ref m4, .ref m5, .ref m6, .ref m7, .ref m8, .ref m9, .int 0, .ref m10, .ref m11, .ref m12, .int 0, .ref m13, .ref m14, .ref m15, .int 0, .ref m16, .int 0, .int 0]))] sz)) 0 0 (va_A [(a0, .inr (7, [.int 0, .ref m1, .int 0, .int (-1), .int 0, .int 0, .int 0, .ref m2, .int 0, .int 0, .ref m3, .ref m4, .ref m5, .ref m6, .ref m7, .ref m8, .ref m9, .int 0, .ref m10, .ref m11, .ref m12, .int 0, .ref m13, .ref m14, .ref m15, .int 0, .ref m16, .int 0, .int 0]))] sz) := by
  refine Met.ofW (cc := cX7_size) (maxL := 3) (ret := (some .int)) (by decide) rfl ?_
  intro p e s m args below meth c s₁ B hml hv
  obtain ⟨rfl, hsz, hP, hK, hD0⟩ := hv
  have hx := B.exec
  have hb := B.bytes
  have hr := B.returns
  have hts0 := atoms_spec (ws := pwX7_size) B.pre
  have hts := fun w (h : w ∈ pwAll) => hts0 w (List.mem_cons_of_mem _ h)
  have hown : s.vm.findClass RX7 = some m.cls := findClass_of_methodNamed B.named
  have hlocks := B.notSynchronized
  subst hsz
  have hD := hD0.self (sz := s.heap.size)
  generalize hAe : va_A [(a0, .inr (7, [.int 0, .ref m1, .int 0, .int (-1), .int 0, .int 0, .int 0, .ref m2, .int 0, .int 0, .ref m3, .ref m4, .ref m5, .ref m6, .ref m7, .ref m8, .ref m9, .int 0, .ref m10, .ref m11, .ref m12, .int 0, .ref m13, .ref m14, .ref m15, .int 0, .ref m16, .int 0, .int 0]))] s.heap.size = A at hD ⊢
  have hA : ∀ q : Nat, s.heap.size ≤ q → A q := fun q h => by rw [← hAe]; exact Or.inr h
  have hS : va_S A s.heap s.heap [] := va_S.rf
  have hP : va_P (dC, dI) vwCl [(a0, .inr (7, [.int 0, .ref m1, .int 0, .int (-1), .int 0, .int 0, .int 0, .ref m2, .int 0, .int 0, .ref m3, .ref m4, .ref m5, .ref m6, .ref m7, .ref m8, .ref m9, .int 0, .ref m10, .ref m11, .ref m12, .int 0, .ref m13, .ref m14, .ref m15, .int 0, .ref m16, .int 0, .int 0]))] s.heap := hP
  have hl := lv_entry ([.ref a0, .int k0, .int k1]) (n := 3) (Nat.le_of_ble_eq_true rfl)
  rw [lg_entry_eq]
  generalize (lg_sl ([.ref a0, .int k0, .int k1]) ++ List.replicate (3 - (lg_sl ([.ref a0, .int k0, .int k1])).length) Slot.unset).toArray = ls at hl ⊢
  have hl : lv_has ls 3 [(0, .ref a0), (1, .int k0), (2, .int k1)] := hl
  refine lv_aload_n hx hb dX7_size_0 rfl (lv_at hl 0 rfl) ?_
  refine va_get (D := (dC, dI)) (ci := 7) (v := .int 0) (C := RX7) (T := TX7) (N := 29) hx hb hts inAll_7 hown hK hP 0 rfl rfl 2 (by decide) (hts (.fieldLink RX7 119 "LoopEnvelopesModel" "isTaken" "Z") k_170) (fun _ h9 => h9) rfl dX7_size_1 ?_
  refine lv_if_ne (tgt := 10) hx hb dX7_size_4 (by decide) (fun c_4 => absurd (rfl) c_4) (fun c_4 => ?_)
  refine lv_bipush (v := (-4)) hx hb dX7_size_7 (by decide) ?_
  have hP9 := hP.sub (ws' := []) [] rfl
  have hD9 := hD.sub (ws' := []) [] (by decide) rfl
  have hK9 := hK.sub (tys' := []) [] rfl
  exact W.iret (v := (-4)) hx hb hr (fun t ht hW => ⟨⟨(-4), (), rfl, rfl, by rw [ht]; exact hP9, va_K.moved hW.alike hK9, hD9⟩, hS.F ht⟩) hS.2.2 dX7_size_9

set_option maxHeartbeats 4000000 in
set_option maxRecDepth 100000 in
theorem c_X7_byteOf (l : Launch) (dC : Nat → ClassId) (dI : Nat → Nat → Nat) (sz : Nat) (a0 : Nat) (m1 : Nat) (m2 : Nat) (m3 : Nat) (m4 : Nat) (m5 : Nat) (m6 : Nat) (m7 : Nat) (m8 : Nat) (m9 : Nat) (m10 : Nat) (m11 : Nat) (m12 : Nat) (m13 : Nat) (m14 : Nat) (m15 : Nat) (m16 : Nat) (k0 : Int32) (k1 : Int32) (k2 : Int32) : Met l yX7_byteOf pwX7_byteOf ({ frames := 0, cells := 0, slots := 0, locals := 0 } : Room) (va_Pc [.ref a0, .int k0, .int k1, .int k2] (fun U => U.heap.size = sz ∧ va_P (dC, dI) vwCl [(a0, .inr (7, [.int 0, .ref m1, .int 0, .int (-1), .int 0, .int 0, .int 0, .ref m2, .int 0, .int 0, .ref m3, .ref m4, .ref m5, .ref m6, .ref m7, .ref m8, .ref m9, .int 0, .ref m10, .ref m11, .ref m12, .int 0, .ref m13, .ref m14, .ref m15, .int 0, .ref m16, .int 0, .int 0]))] U.heap ∧ va_K (dC, dI) vwCl [] U ∧ va_D (fun _ => True) [(a0, .inr (7, [.int 0, .ref m1, .int 0, .int (-1), .int 0, .int 0, .int 0, .ref m2, .int 0, .int 0, .ref m3, .ref m4, .ref m5, .ref m6, .ref m7, .ref m8, .ref m9, .int 0, .ref m10, .ref m11, .ref m12, .int 0, .ref m13, .ref m14, .ref m15, .int 0, .ref m16, .int 0, .int 0]))])) (va_Qi (fun (r : Int32) (_ : Unit) => r = (-4)) (fun (_ : Unit) (t : State) => va_P (dC, dI) vwCl [] t.heap ∧ va_K (dC, dI) vwCl [] t ∧ va_D (va_A [(a0, .inr (7, [.int 0, .ref m1, .int 0, .int (-1), .int 0, .int 0, .int 0, .ref m2, .int 0, .int 0, .ref m3, .ref m4, .ref m5, .ref m6, .ref m7, .ref m8, .ref m9, .int 0, .ref m10, .ref m11, .ref m12, .int 0, .ref m13, .ref m14, .ref m15, .int 0, .ref m16, .int 0, .int 0]))] sz) []) (va_A [(a0, .inr (7, [.int 0, .ref m1, .int 0, .int (-1), .int 0, .int 0, .int 0, .ref m2, .int 0, .int 0, .ref m3, .ref m4, .ref m5, .ref m6, .ref m7, .ref m8, .ref m9, .int 0, .ref m10, .ref m11, .ref m12, .int 0, .ref m13, .ref m14, .ref m15, .int 0, .ref m16, .int 0, .int 0]))] sz)) 0 0 (va_A [(a0, .inr (7, [.int 0, .ref m1, .int 0, .int (-1), .int 0, .int 0, .int 0, .ref m2, .int 0, .int 0, .ref m3, .ref m4, .ref m5, .ref m6, .ref m7, .ref m8, .ref m9, .int 0, .ref m10, .ref m11, .ref m12, .int 0, .ref m13, .ref m14, .ref m15, .int 0, .ref m16, .int 0, .int 0]))] sz) := by
  refine Met.ofW (cc := cX7_byteOf) (maxL := 4) (ret := (some .int)) (by decide) rfl ?_
  intro p e s m args below meth c s₁ B hml hv
  obtain ⟨rfl, hsz, hP, hK, hD0⟩ := hv
  have hx := B.exec
  have hb := B.bytes
  have hr := B.returns
  have hts0 := atoms_spec (ws := pwX7_byteOf) B.pre
  have hts := fun w (h : w ∈ pwAll) => hts0 w (List.mem_cons_of_mem _ h)
  have hown : s.vm.findClass RX7 = some m.cls := findClass_of_methodNamed B.named
  have hlocks := B.notSynchronized
  subst hsz
  have hD := hD0.self (sz := s.heap.size)
  generalize hAe : va_A [(a0, .inr (7, [.int 0, .ref m1, .int 0, .int (-1), .int 0, .int 0, .int 0, .ref m2, .int 0, .int 0, .ref m3, .ref m4, .ref m5, .ref m6, .ref m7, .ref m8, .ref m9, .int 0, .ref m10, .ref m11, .ref m12, .int 0, .ref m13, .ref m14, .ref m15, .int 0, .ref m16, .int 0, .int 0]))] s.heap.size = A at hD ⊢
  have hA : ∀ q : Nat, s.heap.size ≤ q → A q := fun q h => by rw [← hAe]; exact Or.inr h
  have hS : va_S A s.heap s.heap [] := va_S.rf
  have hP : va_P (dC, dI) vwCl [(a0, .inr (7, [.int 0, .ref m1, .int 0, .int (-1), .int 0, .int 0, .int 0, .ref m2, .int 0, .int 0, .ref m3, .ref m4, .ref m5, .ref m6, .ref m7, .ref m8, .ref m9, .int 0, .ref m10, .ref m11, .ref m12, .int 0, .ref m13, .ref m14, .ref m15, .int 0, .ref m16, .int 0, .int 0]))] s.heap := hP
  have hl := lv_entry ([.ref a0, .int k0, .int k1, .int k2]) (n := 4) (Nat.le_of_ble_eq_true rfl)
  rw [lg_entry_eq]
  generalize (lg_sl ([.ref a0, .int k0, .int k1, .int k2]) ++ List.replicate (4 - (lg_sl ([.ref a0, .int k0, .int k1, .int k2])).length) Slot.unset).toArray = ls at hl ⊢
  have hl : lv_has ls 4 [(0, .ref a0), (1, .int k0), (2, .int k1), (3, .int k2)] := hl
  refine lv_aload_n hx hb dX7_byteOf_0 rfl (lv_at hl 0 rfl) ?_
  refine va_get (D := (dC, dI)) (ci := 7) (v := .int 0) (C := RX7) (T := TX7) (N := 29) hx hb hts inAll_7 hown hK hP 0 rfl rfl 2 (by decide) (hts (.fieldLink RX7 119 "LoopEnvelopesModel" "isTaken" "Z") k_170) (fun _ h9 => h9) rfl dX7_byteOf_1 ?_
  refine lv_if_ne (tgt := 10) hx hb dX7_byteOf_4 (by decide) (fun c_4 => absurd (rfl) c_4) (fun c_4 => ?_)
  refine lv_bipush (v := (-4)) hx hb dX7_byteOf_7 (by decide) ?_
  have hP9 := hP.sub (ws' := []) [] rfl
  have hD9 := hD.sub (ws' := []) [] (by decide) rfl
  have hK9 := hK.sub (tys' := []) [] rfl
  exact W.iret (v := (-4)) hx hb hr (fun t ht hW => ⟨⟨(-4), (), rfl, rfl, by rw [ht]; exact hP9, va_K.moved hW.alike hK9, hD9⟩, hS.F ht⟩) hS.2.2 dX7_byteOf_9

set_option maxHeartbeats 4000000 in
set_option maxRecDepth 100000 in
theorem c_X7_answer (l : Launch) (dC : Nat → ClassId) (dI : Nat → Nat → Nat) (sz : Nat) (a0 : Nat) (m1 : Nat) (m2 : Nat) (m3 : Nat) (m4 : Nat) (m5 : Nat) (m6 : Nat) (m7 : Nat) (m8 : Nat) (m9 : Nat) (m10 : Nat) (m11 : Nat) (m12 : Nat) (m13 : Nat) (m14 : Nat) (m15 : Nat) (m16 : Nat) : Met l yX7_answer pwX7_answer ({ frames := 0, cells := 0, slots := 0, locals := 0 } : Room) (va_Pc [.ref a0] (fun U => U.heap.size = sz ∧ va_P (dC, dI) vwCl [(a0, .inr (7, [.int 0, .ref m1, .int 0, .int (-1), .int 0, .int 0, .int 0, .ref m2, .int 0, .int 0, .ref m3, .ref m4, .ref m5, .ref m6, .ref m7, .ref m8, .ref m9, .int 0, .ref m10, .ref m11, .ref m12, .int 0, .ref m13, .ref m14, .ref m15, .int 0, .ref m16, .int 0, .int 0]))] U.heap ∧ va_K (dC, dI) vwCl [] U ∧ va_D (fun _ => True) [(a0, .inr (7, [.int 0, .ref m1, .int 0, .int (-1), .int 0, .int 0, .int 0, .ref m2, .int 0, .int 0, .ref m3, .ref m4, .ref m5, .ref m6, .ref m7, .ref m8, .ref m9, .int 0, .ref m10, .ref m11, .ref m12, .int 0, .ref m13, .ref m14, .ref m15, .int 0, .ref m16, .int 0, .int 0]))])) (va_Qi (fun (r : Int32) (_ : Unit) => r = (-4)) (fun (_ : Unit) (t : State) => va_P (dC, dI) vwCl [] t.heap ∧ va_K (dC, dI) vwCl [] t ∧ va_D (va_A [(a0, .inr (7, [.int 0, .ref m1, .int 0, .int (-1), .int 0, .int 0, .int 0, .ref m2, .int 0, .int 0, .ref m3, .ref m4, .ref m5, .ref m6, .ref m7, .ref m8, .ref m9, .int 0, .ref m10, .ref m11, .ref m12, .int 0, .ref m13, .ref m14, .ref m15, .int 0, .ref m16, .int 0, .int 0]))] sz) []) (va_A [(a0, .inr (7, [.int 0, .ref m1, .int 0, .int (-1), .int 0, .int 0, .int 0, .ref m2, .int 0, .int 0, .ref m3, .ref m4, .ref m5, .ref m6, .ref m7, .ref m8, .ref m9, .int 0, .ref m10, .ref m11, .ref m12, .int 0, .ref m13, .ref m14, .ref m15, .int 0, .ref m16, .int 0, .int 0]))] sz)) 0 0 (va_A [(a0, .inr (7, [.int 0, .ref m1, .int 0, .int (-1), .int 0, .int 0, .int 0, .ref m2, .int 0, .int 0, .ref m3, .ref m4, .ref m5, .ref m6, .ref m7, .ref m8, .ref m9, .int 0, .ref m10, .ref m11, .ref m12, .int 0, .ref m13, .ref m14, .ref m15, .int 0, .ref m16, .int 0, .int 0]))] sz) := by
  refine Met.ofW (cc := cX7_answer) (maxL := 2) (ret := (some .int)) (by decide) rfl ?_
  intro p e s m args below meth c s₁ B hml hv
  obtain ⟨rfl, hsz, hP, hK, hD0⟩ := hv
  have hx := B.exec
  have hb := B.bytes
  have hr := B.returns
  have hts0 := atoms_spec (ws := pwX7_answer) B.pre
  have hts := fun w (h : w ∈ pwAll) => hts0 w (List.mem_cons_of_mem _ h)
  have hown : s.vm.findClass RX7 = some m.cls := findClass_of_methodNamed B.named
  have hlocks := B.notSynchronized
  subst hsz
  have hD := hD0.self (sz := s.heap.size)
  generalize hAe : va_A [(a0, .inr (7, [.int 0, .ref m1, .int 0, .int (-1), .int 0, .int 0, .int 0, .ref m2, .int 0, .int 0, .ref m3, .ref m4, .ref m5, .ref m6, .ref m7, .ref m8, .ref m9, .int 0, .ref m10, .ref m11, .ref m12, .int 0, .ref m13, .ref m14, .ref m15, .int 0, .ref m16, .int 0, .int 0]))] s.heap.size = A at hD ⊢
  have hA : ∀ q : Nat, s.heap.size ≤ q → A q := fun q h => by rw [← hAe]; exact Or.inr h
  have hS : va_S A s.heap s.heap [] := va_S.rf
  have hP : va_P (dC, dI) vwCl [(a0, .inr (7, [.int 0, .ref m1, .int 0, .int (-1), .int 0, .int 0, .int 0, .ref m2, .int 0, .int 0, .ref m3, .ref m4, .ref m5, .ref m6, .ref m7, .ref m8, .ref m9, .int 0, .ref m10, .ref m11, .ref m12, .int 0, .ref m13, .ref m14, .ref m15, .int 0, .ref m16, .int 0, .int 0]))] s.heap := hP
  have hl := lv_entry ([.ref a0]) (n := 2) (Nat.le_of_ble_eq_true rfl)
  rw [lg_entry_eq]
  generalize (lg_sl ([.ref a0]) ++ List.replicate (2 - (lg_sl ([.ref a0])).length) Slot.unset).toArray = ls at hl ⊢
  have hl : lv_has ls 2 [(0, .ref a0)] := hl
  refine lv_aload_n hx hb dX7_answer_0 rfl (lv_at hl 0 rfl) ?_
  refine va_get (D := (dC, dI)) (ci := 7) (v := .int 0) (C := RX7) (T := TX7) (N := 29) hx hb hts inAll_7 hown hK hP 0 rfl rfl 2 (by decide) (hts (.fieldLink RX7 119 "LoopEnvelopesModel" "isTaken" "Z") k_170) (fun _ h9 => h9) rfl dX7_answer_1 ?_
  refine lv_if_ne (tgt := 10) hx hb dX7_answer_4 (by decide) (fun c_4 => absurd (rfl) c_4) (fun c_4 => ?_)
  refine lv_bipush (v := (-4)) hx hb dX7_answer_7 (by decide) ?_
  have hP9 := hP.sub (ws' := []) [] rfl
  have hD9 := hD.sub (ws' := []) [] (by decide) rfl
  have hK9 := hK.sub (tys' := []) [] rfl
  exact W.iret (v := (-4)) hx hb hr (fun t ht hW => ⟨⟨(-4), (), rfl, rfl, by rw [ht]; exact hP9, va_K.moved hW.alike hK9, hD9⟩, hS.F ht⟩) hS.2.2 dX7_answer_9

set_option maxHeartbeats 4000000 in
set_option maxRecDepth 100000 in
theorem c_X7_where (l : Launch) (dC : Nat → ClassId) (dI : Nat → Nat → Nat) (sz : Nat) (a0 : Nat) (m1 : Nat) (m2 : Nat) (m3 : Nat) (m4 : Nat) (m5 : Nat) (m6 : Nat) (m7 : Nat) (m8 : Nat) (m9 : Nat) (m10 : Nat) (m11 : Nat) (m12 : Nat) (m13 : Nat) (m14 : Nat) (m15 : Nat) (m16 : Nat) : Met l yX7_where pwX7_where ({ frames := 0, cells := 0, slots := 0, locals := 0 } : Room) (va_Pc [.ref a0] (fun U => U.heap.size = sz ∧ va_P (dC, dI) vwCl [(a0, .inr (7, [.int 0, .ref m1, .int 0, .int (-1), .int 0, .int 0, .int 0, .ref m2, .int 0, .int 0, .ref m3, .ref m4, .ref m5, .ref m6, .ref m7, .ref m8, .ref m9, .int 0, .ref m10, .ref m11, .ref m12, .int 0, .ref m13, .ref m14, .ref m15, .int 0, .ref m16, .int 0, .int 0]))] U.heap ∧ va_K (dC, dI) vwCl [] U ∧ va_D (fun _ => True) [(a0, .inr (7, [.int 0, .ref m1, .int 0, .int (-1), .int 0, .int 0, .int 0, .ref m2, .int 0, .int 0, .ref m3, .ref m4, .ref m5, .ref m6, .ref m7, .ref m8, .ref m9, .int 0, .ref m10, .ref m11, .ref m12, .int 0, .ref m13, .ref m14, .ref m15, .int 0, .ref m16, .int 0, .int 0]))])) (va_Qi (fun (r : Int32) (_ : Unit) => r = (-1)) (fun (_ : Unit) (t : State) => va_P (dC, dI) vwCl [] t.heap ∧ va_K (dC, dI) vwCl [] t ∧ va_D (va_A [(a0, .inr (7, [.int 0, .ref m1, .int 0, .int (-1), .int 0, .int 0, .int 0, .ref m2, .int 0, .int 0, .ref m3, .ref m4, .ref m5, .ref m6, .ref m7, .ref m8, .ref m9, .int 0, .ref m10, .ref m11, .ref m12, .int 0, .ref m13, .ref m14, .ref m15, .int 0, .ref m16, .int 0, .int 0]))] sz) []) (va_A [(a0, .inr (7, [.int 0, .ref m1, .int 0, .int (-1), .int 0, .int 0, .int 0, .ref m2, .int 0, .int 0, .ref m3, .ref m4, .ref m5, .ref m6, .ref m7, .ref m8, .ref m9, .int 0, .ref m10, .ref m11, .ref m12, .int 0, .ref m13, .ref m14, .ref m15, .int 0, .ref m16, .int 0, .int 0]))] sz)) 0 0 (va_A [(a0, .inr (7, [.int 0, .ref m1, .int 0, .int (-1), .int 0, .int 0, .int 0, .ref m2, .int 0, .int 0, .ref m3, .ref m4, .ref m5, .ref m6, .ref m7, .ref m8, .ref m9, .int 0, .ref m10, .ref m11, .ref m12, .int 0, .ref m13, .ref m14, .ref m15, .int 0, .ref m16, .int 0, .int 0]))] sz) := by
  refine Met.ofW (cc := cX7_where) (maxL := 1) (ret := (some .int)) (by decide) rfl ?_
  intro p e s m args below meth c s₁ B hml hv
  obtain ⟨rfl, hsz, hP, hK, hD0⟩ := hv
  have hx := B.exec
  have hb := B.bytes
  have hr := B.returns
  have hts0 := atoms_spec (ws := pwX7_where) B.pre
  have hts := fun w (h : w ∈ pwAll) => hts0 w (List.mem_cons_of_mem _ h)
  have hown : s.vm.findClass RX7 = some m.cls := findClass_of_methodNamed B.named
  have hlocks := B.notSynchronized
  subst hsz
  have hD := hD0.self (sz := s.heap.size)
  generalize hAe : va_A [(a0, .inr (7, [.int 0, .ref m1, .int 0, .int (-1), .int 0, .int 0, .int 0, .ref m2, .int 0, .int 0, .ref m3, .ref m4, .ref m5, .ref m6, .ref m7, .ref m8, .ref m9, .int 0, .ref m10, .ref m11, .ref m12, .int 0, .ref m13, .ref m14, .ref m15, .int 0, .ref m16, .int 0, .int 0]))] s.heap.size = A at hD ⊢
  have hA : ∀ q : Nat, s.heap.size ≤ q → A q := fun q h => by rw [← hAe]; exact Or.inr h
  have hS : va_S A s.heap s.heap [] := va_S.rf
  have hP : va_P (dC, dI) vwCl [(a0, .inr (7, [.int 0, .ref m1, .int 0, .int (-1), .int 0, .int 0, .int 0, .ref m2, .int 0, .int 0, .ref m3, .ref m4, .ref m5, .ref m6, .ref m7, .ref m8, .ref m9, .int 0, .ref m10, .ref m11, .ref m12, .int 0, .ref m13, .ref m14, .ref m15, .int 0, .ref m16, .int 0, .int 0]))] s.heap := hP
  have hl := lv_entry ([.ref a0]) (n := 1) (Nat.le_of_ble_eq_true rfl)
  rw [lg_entry_eq]
  generalize (lg_sl ([.ref a0]) ++ List.replicate (1 - (lg_sl ([.ref a0])).length) Slot.unset).toArray = ls at hl ⊢
  have hl : lv_has ls 1 [(0, .ref a0)] := hl
  refine lv_aload_n hx hb dX7_where_0 rfl (lv_at hl 0 rfl) ?_
  refine va_get (D := (dC, dI)) (ci := 7) (v := .int (-1)) (C := RX7) (T := TX7) (N := 29) hx hb hts inAll_7 hown hK hP 0 rfl rfl 3 (by decide) (hts (.fieldLink RX7 13 "LoopEnvelopesModel" "where" "I") k_153) (fun _ h9 => h9) rfl dX7_where_1 ?_
  have hP9 := hP.sub (ws' := []) [] rfl
  have hD9 := hD.sub (ws' := []) [] (by decide) rfl
  have hK9 := hK.sub (tys' := []) [] rfl
  exact W.iret (v := (-1)) hx hb hr (fun t ht hW => ⟨⟨(-1), (), rfl, rfl, by rw [ht]; exact hP9, va_K.moved hW.alike hK9, hD9⟩, hS.F ht⟩) hS.2.2 dX7_where_4

set_option maxHeartbeats 4000000 in
set_option maxRecDepth 100000 in
theorem c_X7_set (l : Launch) (dC : Nat → ClassId) (dI : Nat → Nat → Nat) (sz : Nat) (a0 : Nat) (m1 : Nat) (m2 : Nat) (m3 : Nat) (m4 : Nat) (m5 : Nat) (m6 : Nat) (m7 : Nat) (m8 : Nat) (m9 : Nat) (m10 : Nat) (m11 : Nat) (m12 : Nat) (m13 : Nat) (m14 : Nat) (m15 : Nat) (m16 : Nat) (k0 : Int32) (k1 : Int32) : Met l yX7_set pwX7_set ({ frames := 1, cells := 0, slots := 0, locals := 22 } : Room) (va_Pc [.ref a0, .int k0, .int k1] (fun U => U.heap.size = sz ∧ va_P (dC, dI) vwCl [(a0, .inr (7, [.int 0, .ref m1, .int 0, .int (-1), .int 0, .int 0, .int 0, .ref m2, .int 0, .int 0, .ref m3, .ref m4, .ref m5, .ref m6, .ref m7, .ref m8, .ref m9, .int 0, .ref m10, .ref m11, .ref m12, .int 0, .ref m13, .ref m14, .ref m15, .int 0, .ref m16, .int 0, .int 0]))] U.heap ∧ va_K (dC, dI) vwCl [] U ∧ va_D (fun _ => True) [(a0, .inr (7, [.int 0, .ref m1, .int 0, .int (-1), .int 0, .int 0, .int 0, .ref m2, .int 0, .int 0, .ref m3, .ref m4, .ref m5, .ref m6, .ref m7, .ref m8, .ref m9, .int 0, .ref m10, .ref m11, .ref m12, .int 0, .ref m13, .ref m14, .ref m15, .int 0, .ref m16, .int 0, .int 0]))])) (va_Qi (fun (r : Int32) (_ : Unit) => r = (-2)) (fun (_ : Unit) (t : State) => va_P (dC, dI) vwCl [] t.heap ∧ va_K (dC, dI) vwCl [] t ∧ va_D (va_A [(a0, .inr (7, [.int 0, .ref m1, .int 0, .int (-1), .int 0, .int 0, .int 0, .ref m2, .int 0, .int 0, .ref m3, .ref m4, .ref m5, .ref m6, .ref m7, .ref m8, .ref m9, .int 0, .ref m10, .ref m11, .ref m12, .int 0, .ref m13, .ref m14, .ref m15, .int 0, .ref m16, .int 0, .int 0]))] sz) []) (va_A [(a0, .inr (7, [.int 0, .ref m1, .int 0, .int (-1), .int 0, .int 0, .int 0, .ref m2, .int 0, .int 0, .ref m3, .ref m4, .ref m5, .ref m6, .ref m7, .ref m8, .ref m9, .int 0, .ref m10, .ref m11, .ref m12, .int 0, .ref m13, .ref m14, .ref m15, .int 0, .ref m16, .int 0, .int 0]))] sz)) 0 0 (va_A [(a0, .inr (7, [.int 0, .ref m1, .int 0, .int (-1), .int 0, .int 0, .int 0, .ref m2, .int 0, .int 0, .ref m3, .ref m4, .ref m5, .ref m6, .ref m7, .ref m8, .ref m9, .int 0, .ref m10, .ref m11, .ref m12, .int 0, .ref m13, .ref m14, .ref m15, .int 0, .ref m16, .int 0, .int 0]))] sz) := by
  refine Met.ofW (cc := cX7_set) (maxL := 4) (ret := (some .int)) (by decide) rfl ?_
  intro p e s m args below meth c s₁ B hml hv
  obtain ⟨rfl, hsz, hP, hK, hD0⟩ := hv
  have hx := B.exec
  have hb := B.bytes
  have hr := B.returns
  have hts0 := atoms_spec (ws := pwX7_set) B.pre
  have hts := fun w (h : w ∈ pwAll) => hts0 w (List.mem_cons_of_mem _ h)
  have hown : s.vm.findClass RX7 = some m.cls := findClass_of_methodNamed B.named
  have hlocks := B.notSynchronized
  subst hsz
  have hD := hD0.self (sz := s.heap.size)
  generalize hAe : va_A [(a0, .inr (7, [.int 0, .ref m1, .int 0, .int (-1), .int 0, .int 0, .int 0, .ref m2, .int 0, .int 0, .ref m3, .ref m4, .ref m5, .ref m6, .ref m7, .ref m8, .ref m9, .int 0, .ref m10, .ref m11, .ref m12, .int 0, .ref m13, .ref m14, .ref m15, .int 0, .ref m16, .int 0, .int 0]))] s.heap.size = A at hD ⊢
  have hA : ∀ q : Nat, s.heap.size ≤ q → A q := fun q h => by rw [← hAe]; exact Or.inr h
  have hS : va_S A s.heap s.heap [] := va_S.rf
  have hP : va_P (dC, dI) vwCl [(a0, .inr (7, [.int 0, .ref m1, .int 0, .int (-1), .int 0, .int 0, .int 0, .ref m2, .int 0, .int 0, .ref m3, .ref m4, .ref m5, .ref m6, .ref m7, .ref m8, .ref m9, .int 0, .ref m10, .ref m11, .ref m12, .int 0, .ref m13, .ref m14, .ref m15, .int 0, .ref m16, .int 0, .int 0]))] s.heap := hP
  have hl := lv_entry ([.ref a0, .int k0, .int k1]) (n := 4) (Nat.le_of_ble_eq_true rfl)
  rw [lg_entry_eq]
  generalize (lg_sl ([.ref a0, .int k0, .int k1]) ++ List.replicate (4 - (lg_sl ([.ref a0, .int k0, .int k1])).length) Slot.unset).toArray = ls at hl ⊢
  have hl : lv_has ls 4 [(0, .ref a0), (1, .int k0), (2, .int k1)] := hl
  refine lv_iload_n hx hb dX7_set_0 rfl (lv_at hl 1 rfl) ?_
  refine lv_iconst (v := 0) hx hb dX7_set_1 (by decide) ?_
  refine lv_aload_n hx hb dX7_set_2 rfl (lv_at hl 0 rfl) ?_
  refine va_get (D := (dC, dI)) (ci := 7) (v := .int 0) (C := RX7) (T := TX7) (N := 29) hx hb hts inAll_7 hown hK hP 0 rfl rfl 0 (by decide) (hts (.fieldLink RX7 67 "LoopEnvelopesModel" "size" "I") k_171) (fun _ h9 => h9) rfl dX7_set_3 ?_
  refine lv_iconst (v := 1) hx hb dX7_set_6 (by decide) ?_
  refine lv_isub hx hb dX7_set_7 ?_
  refine pf_top (y := (-1)) (by decide) ?_
  have hPc := hP.sub (ws' := []) [] rfl
  have hDc := hD.sub (ws' := []) [] (by decide) rfl
  have hKc := hK.sub (tys' := []) [] rfl
  have hFc := va_free (wc := []) hD hS hA [] rfl
  refine va_calli (va_runS (As := [.int k0, .int 0, .int (-1)]) (rest := []) ⟨hx, hb, hml, hown, hts⟩ (c_X7_in l dC dI s.heap.size k0 0 (-1)) (va_cwS 3 hts gg_RX7_63 rfl rfl rfl (by decide +kernel) ⟨Nat.le_of_ble_eq_true rfl, Nat.le_of_ble_eq_true rfl⟩) ⟨fun a U g mk q => by obtain ⟨q0, q1, qP, qK, qD⟩ := q; exact ⟨q0, q1, qP, va_K.moved (u := U) (U := U.calling g mk a) (Vm.Alike.refl U.vm) qK, qD⟩, fun U hU hW => ⟨rfl, by rw [hU], by rw [hU]; exact hPc, va_K.moved hW.alike hKc, hDc.weaken (fun _ _ _ _ => trivial)⟩⟩ rfl rfl hl.1 rfl (lv_room (Nat.le_of_ble_eq_true rfl)) dX7_set_8 ⟨Nat.le_of_ble_eq_true rfl, Nat.le_of_ble_eq_true rfl⟩) hS (fun q _ h => hFc q h) hFc (fun r1 u t H1 locs ht hvm hw hB hz1 hk1 hS => ?_)
  obtain ⟨hP1, hK1, hD1⟩ := hB
  rw [ht] at hP1
  have hK1 := va_K.moved hvm.symm hK1
  obtain ⟨hP, hD⟩ := va_join (wr := [(a0, .inr (7, [.int 0, .ref m1, .int 0, .int (-1), .int 0, .int 0, .int 0, .ref m2, .int 0, .int 0, .ref m3, .ref m4, .ref m5, .ref m6, .ref m7, .ref m8, .ref m9, .int 0, .ref m10, .ref m11, .ref m12, .int 0, .ref m13, .ref m14, .ref m15, .int 0, .ref m16, .int 0, .int 0]))]) (w1 := []) hP hD [] [0] rfl rfl (by decide) (by decide) hk1 hFc hP1 hD1
  have hK := (hK.sub (tys' := []) [] rfl).app hK1
  generalize H1 = H at hP hS ⊢
  have hP : va_P (dC, dI) vwCl [(a0, .inr (7, [.int 0, .ref m1, .int 0, .int (-1), .int 0, .int 0, .int 0, .ref m2, .int 0, .int 0, .ref m3, .ref m4, .ref m5, .ref m6, .ref m7, .ref m8, .ref m9, .int 0, .ref m10, .ref m11, .ref m12, .int 0, .ref m13, .ref m14, .ref m15, .int 0, .ref m16, .int 0, .int 0]))] H := hP
  have hD : va_D A [(a0, .inr (7, [.int 0, .ref m1, .int 0, .int (-1), .int 0, .int 0, .int 0, .ref m2, .int 0, .int 0, .ref m3, .ref m4, .ref m5, .ref m6, .ref m7, .ref m8, .ref m9, .int 0, .ref m10, .ref m11, .ref m12, .int 0, .ref m13, .ref m14, .ref m15, .int 0, .ref m16, .int 0, .int 0]))] := hD
  have hK : va_K (dC, dI) vwCl [] s := hK
  have hw : r1 = pf_in k0 0 (-1) := hw
  subst hw
  refine lv_if_ne (tgt := 17) hx hb dX7_set_11 (by decide) (fun c_11 => absurd (pf_in_m1 k0) c_11) (fun c_11 => ?_)
  refine lv_bipush (v := (-2)) hx hb dX7_set_14 (by decide) ?_
  have hP9 := hP.sub (ws' := []) [] rfl
  have hD9 := hD.sub (ws' := []) [] (by decide) rfl
  have hK9 := hK.sub (tys' := []) [] rfl
  exact W.iret (v := (-2)) hx hb hr (fun t ht hW => ⟨⟨(-2), (), rfl, rfl, by rw [ht]; exact hP9, va_K.moved hW.alike hK9, hD9⟩, hS.F ht⟩) hS.2.2 dX7_set_16

set_option maxHeartbeats 4000000 in
set_option maxRecDepth 100000 in
theorem c_X7_cut (l : Launch) (dC : Nat → ClassId) (dI : Nat → Nat → Nat) (sz : Nat) (a0 : Nat) (m1 : Nat) (m2 : Nat) (m3 : Nat) (m4 : Nat) (m5 : Nat) (m6 : Nat) (m7 : Nat) (m8 : Nat) (m9 : Nat) (m10 : Nat) (m11 : Nat) (m12 : Nat) (m13 : Nat) (m14 : Nat) (m15 : Nat) (m16 : Nat) (k0 : Int32) : Met l yX7_cut pwX7_cut ({ frames := 1, cells := 0, slots := 0, locals := 22 } : Room) (va_Pc [.ref a0, .int k0] (fun U => U.heap.size = sz ∧ va_P (dC, dI) vwCl [(a0, .inr (7, [.int 0, .ref m1, .int 0, .int (-1), .int 0, .int 0, .int 0, .ref m2, .int 0, .int 0, .ref m3, .ref m4, .ref m5, .ref m6, .ref m7, .ref m8, .ref m9, .int 0, .ref m10, .ref m11, .ref m12, .int 0, .ref m13, .ref m14, .ref m15, .int 0, .ref m16, .int 0, .int 0]))] U.heap ∧ va_K (dC, dI) vwCl [] U ∧ va_D (fun _ => True) [(a0, .inr (7, [.int 0, .ref m1, .int 0, .int (-1), .int 0, .int 0, .int 0, .ref m2, .int 0, .int 0, .ref m3, .ref m4, .ref m5, .ref m6, .ref m7, .ref m8, .ref m9, .int 0, .ref m10, .ref m11, .ref m12, .int 0, .ref m13, .ref m14, .ref m15, .int 0, .ref m16, .int 0, .int 0]))])) (va_Qi (fun (r : Int32) (_ : Unit) => r = pf_cut k0) (fun (_ : Unit) (t : State) => va_P (dC, dI) vwCl [] t.heap ∧ va_K (dC, dI) vwCl [] t ∧ va_D (va_A [(a0, .inr (7, [.int 0, .ref m1, .int 0, .int (-1), .int 0, .int 0, .int 0, .ref m2, .int 0, .int 0, .ref m3, .ref m4, .ref m5, .ref m6, .ref m7, .ref m8, .ref m9, .int 0, .ref m10, .ref m11, .ref m12, .int 0, .ref m13, .ref m14, .ref m15, .int 0, .ref m16, .int 0, .int 0]))] sz) []) (va_A [(a0, .inr (7, [.int 0, .ref m1, .int 0, .int (-1), .int 0, .int 0, .int 0, .ref m2, .int 0, .int 0, .ref m3, .ref m4, .ref m5, .ref m6, .ref m7, .ref m8, .ref m9, .int 0, .ref m10, .ref m11, .ref m12, .int 0, .ref m13, .ref m14, .ref m15, .int 0, .ref m16, .int 0, .int 0]))] sz)) 0 0 (va_A [(a0, .inr (7, [.int 0, .ref m1, .int 0, .int (-1), .int 0, .int 0, .int 0, .ref m2, .int 0, .int 0, .ref m3, .ref m4, .ref m5, .ref m6, .ref m7, .ref m8, .ref m9, .int 0, .ref m10, .ref m11, .ref m12, .int 0, .ref m13, .ref m14, .ref m15, .int 0, .ref m16, .int 0, .int 0]))] sz) := by
  refine Met.ofW (cc := cX7_cut) (maxL := 3) (ret := (some .int)) (by decide) rfl ?_
  intro p e s m args below meth c s₁ B hml hv
  obtain ⟨rfl, hsz, hP, hK, hD0⟩ := hv
  have hx := B.exec
  have hb := B.bytes
  have hr := B.returns
  have hts0 := atoms_spec (ws := pwX7_cut) B.pre
  have hts := fun w (h : w ∈ pwAll) => hts0 w (List.mem_cons_of_mem _ h)
  have hown : s.vm.findClass RX7 = some m.cls := findClass_of_methodNamed B.named
  have hlocks := B.notSynchronized
  subst hsz
  have hD := hD0.self (sz := s.heap.size)
  generalize hAe : va_A [(a0, .inr (7, [.int 0, .ref m1, .int 0, .int (-1), .int 0, .int 0, .int 0, .ref m2, .int 0, .int 0, .ref m3, .ref m4, .ref m5, .ref m6, .ref m7, .ref m8, .ref m9, .int 0, .ref m10, .ref m11, .ref m12, .int 0, .ref m13, .ref m14, .ref m15, .int 0, .ref m16, .int 0, .int 0]))] s.heap.size = A at hD ⊢
  have hA : ∀ q : Nat, s.heap.size ≤ q → A q := fun q h => by rw [← hAe]; exact Or.inr h
  have hS : va_S A s.heap s.heap [] := va_S.rf
  have hP : va_P (dC, dI) vwCl [(a0, .inr (7, [.int 0, .ref m1, .int 0, .int (-1), .int 0, .int 0, .int 0, .ref m2, .int 0, .int 0, .ref m3, .ref m4, .ref m5, .ref m6, .ref m7, .ref m8, .ref m9, .int 0, .ref m10, .ref m11, .ref m12, .int 0, .ref m13, .ref m14, .ref m15, .int 0, .ref m16, .int 0, .int 0]))] s.heap := hP
  have hl := lv_entry ([.ref a0, .int k0]) (n := 3) (Nat.le_of_ble_eq_true rfl)
  rw [lg_entry_eq]
  generalize (lg_sl ([.ref a0, .int k0]) ++ List.replicate (3 - (lg_sl ([.ref a0, .int k0])).length) Slot.unset).toArray = ls at hl ⊢
  have hl : lv_has ls 3 [(0, .ref a0), (1, .int k0)] := hl
  refine lv_iload_n hx hb dX7_cut_0 rfl (lv_at hl 1 rfl) ?_
  refine lv_iconst (v := 0) hx hb dX7_cut_1 (by decide) ?_
  refine lv_aload_n hx hb dX7_cut_2 rfl (lv_at hl 0 rfl) ?_
  refine va_get (D := (dC, dI)) (ci := 7) (v := .int 0) (C := RX7) (T := TX7) (N := 29) hx hb hts inAll_7 hown hK hP 0 rfl rfl 0 (by decide) (hts (.fieldLink RX7 67 "LoopEnvelopesModel" "size" "I") k_171) (fun _ h9 => h9) rfl dX7_cut_3 ?_
  have hPc := hP.sub (ws' := []) [] rfl
  have hDc := hD.sub (ws' := []) [] (by decide) rfl
  have hKc := hK.sub (tys' := []) [] rfl
  have hFc := va_free (wc := []) hD hS hA [] rfl
  refine va_calli (va_runS (As := [.int k0, .int 0, .int 0]) (rest := []) ⟨hx, hb, hml, hown, hts⟩ (c_X7_in l dC dI s.heap.size k0 0 0) (va_cwS 3 hts gg_RX7_63 rfl rfl rfl (by decide +kernel) ⟨Nat.le_of_ble_eq_true rfl, Nat.le_of_ble_eq_true rfl⟩) ⟨fun a U g mk q => by obtain ⟨q0, q1, qP, qK, qD⟩ := q; exact ⟨q0, q1, qP, va_K.moved (u := U) (U := U.calling g mk a) (Vm.Alike.refl U.vm) qK, qD⟩, fun U hU hW => ⟨rfl, by rw [hU], by rw [hU]; exact hPc, va_K.moved hW.alike hKc, hDc.weaken (fun _ _ _ _ => trivial)⟩⟩ rfl rfl hl.1 rfl (lv_room (Nat.le_of_ble_eq_true rfl)) dX7_cut_6 ⟨Nat.le_of_ble_eq_true rfl, Nat.le_of_ble_eq_true rfl⟩) hS (fun q _ h => hFc q h) hFc (fun r1 u t H1 locs ht hvm hw hB hz1 hk1 hS => ?_)
  obtain ⟨hP1, hK1, hD1⟩ := hB
  rw [ht] at hP1
  have hK1 := va_K.moved hvm.symm hK1
  obtain ⟨hP, hD⟩ := va_join (wr := [(a0, .inr (7, [.int 0, .ref m1, .int 0, .int (-1), .int 0, .int 0, .int 0, .ref m2, .int 0, .int 0, .ref m3, .ref m4, .ref m5, .ref m6, .ref m7, .ref m8, .ref m9, .int 0, .ref m10, .ref m11, .ref m12, .int 0, .ref m13, .ref m14, .ref m15, .int 0, .ref m16, .int 0, .int 0]))]) (w1 := []) hP hD [] [0] rfl rfl (by decide) (by decide) hk1 hFc hP1 hD1
  have hK := (hK.sub (tys' := []) [] rfl).app hK1
  generalize H1 = H at hP hS ⊢
  have hP : va_P (dC, dI) vwCl [(a0, .inr (7, [.int 0, .ref m1, .int 0, .int (-1), .int 0, .int 0, .int 0, .ref m2, .int 0, .int 0, .ref m3, .ref m4, .ref m5, .ref m6, .ref m7, .ref m8, .ref m9, .int 0, .ref m10, .ref m11, .ref m12, .int 0, .ref m13, .ref m14, .ref m15, .int 0, .ref m16, .int 0, .int 0]))] H := hP
  have hD : va_D A [(a0, .inr (7, [.int 0, .ref m1, .int 0, .int (-1), .int 0, .int 0, .int 0, .ref m2, .int 0, .int 0, .ref m3, .ref m4, .ref m5, .ref m6, .ref m7, .ref m8, .ref m9, .int 0, .ref m10, .ref m11, .ref m12, .int 0, .ref m13, .ref m14, .ref m15, .int 0, .ref m16, .int 0, .int 0]))] := hD
  have hK : va_K (dC, dI) vwCl [] s := hK
  have hw : r1 = pf_in k0 0 0 := hw
  subst hw
  refine lv_if_ne (tgt := 15) hx hb dX7_cut_9 (by decide) (fun c_9 => ?_) (fun c_9 => ?_)
  · skip
    refine lv_aload_n hx hb dX7_cut_15 rfl (lv_at hl 0 rfl) ?_
    refine va_get (D := (dC, dI)) (ci := 7) (v := .int 0) (C := RX7) (T := TX7) (N := 29) hx hb hts inAll_7 hown hK hP 0 rfl rfl 0 (by decide) (hts (.fieldLink RX7 67 "LoopEnvelopesModel" "size" "I") k_171) (fun _ h9 => h9) rfl dX7_cut_16 ?_
    refine lv_iload_n hx hb dX7_cut_19 rfl (lv_at hl 1 rfl) ?_
    refine lv_isub hx hb dX7_cut_20 ?_
    refine pf_top (y := 0) (pf_cut_k c_9) ?_
    refine lv_istore_n (lv' := [(2, .int 0), (0, .ref a0), (1, .int k0)]) hx hb dX7_cut_21 rfl hl (by decide) rfl (fun ls hl => ?_)
    refine lv_aload_n hx hb dX7_cut_22 rfl (lv_at hl 1 rfl) ?_
    refine lv_iload_n hx hb dX7_cut_23 rfl (lv_at hl 2 rfl) ?_
    refine va_put (D := (dC, dI)) (ci := 7) (v := .int k0) (ty := .int) (C := RX7) (T := TX7) (N := 29) hx hb hts inAll_7 tyX7 tyX7_ok nmX7 hown hK hP hD hS 0 rfl rfl 0 (by decide) (hts (.fieldLink RX7 67 "LoopEnvelopesModel" "size" "I") k_171) (fun _ h9 => h9) rfl (by decide +kernel) rfl rfl (Nat.le_of_ble_eq_true rfl) dX7_cut_24 (fun H locs hP hD hS => ?_)
    have hP : va_P (dC, dI) vwCl [(a0, .inr (7, [.int k0, .ref m1, .int 0, .int (-1), .int 0, .int 0, .int 0, .ref m2, .int 0, .int 0, .ref m3, .ref m4, .ref m5, .ref m6, .ref m7, .ref m8, .ref m9, .int 0, .ref m10, .ref m11, .ref m12, .int 0, .ref m13, .ref m14, .ref m15, .int 0, .ref m16, .int 0, .int 0]))] H := hP
    have hD : va_D A [(a0, .inr (7, [.int k0, .ref m1, .int 0, .int (-1), .int 0, .int 0, .int 0, .ref m2, .int 0, .int 0, .ref m3, .ref m4, .ref m5, .ref m6, .ref m7, .ref m8, .ref m9, .int 0, .ref m10, .ref m11, .ref m12, .int 0, .ref m13, .ref m14, .ref m15, .int 0, .ref m16, .int 0, .int 0]))] := hD
    refine lv_iload_n hx hb dX7_cut_27 rfl (lv_at hl 0 rfl) ?_
    have hP9 := hP.sub (ws' := []) [] rfl
    have hD9 := hD.sub (ws' := []) [] (by decide) rfl
    have hK9 := hK.sub (tys' := []) [] rfl
    exact W.iret (v := 0) hx hb hr (fun t ht hW => ⟨⟨0, (), rfl, (pf_cut_in c_9).symm, by rw [ht]; exact hP9, va_K.moved hW.alike hK9, hD9⟩, hS.F ht⟩) hS.2.2 dX7_cut_28
  · skip
    refine lv_bipush (v := (-3)) hx hb dX7_cut_12 (by decide) ?_
    have hP9 := hP.sub (ws' := []) [] rfl
    have hD9 := hD.sub (ws' := []) [] (by decide) rfl
    have hK9 := hK.sub (tys' := []) [] rfl
    exact W.iret (v := (-3)) hx hb hr (fun t ht hW => ⟨⟨(-3), (), rfl, (pf_cut_out c_9).symm, by rw [ht]; exact hP9, va_K.moved hW.alike hK9, hD9⟩, hS.F ht⟩) hS.2.2 dX7_cut_14

set_option maxHeartbeats 4000000 in
set_option maxRecDepth 100000 in
theorem c_X7_count (l : Launch) (dC : Nat → ClassId) (dI : Nat → Nat → Nat) (sz : Nat) (a0 : Nat) (m1 : Nat) (m2 : Nat) (m3 : Nat) (m4 : Nat) (m5 : Nat) (m6 : Nat) (m7 : Nat) (m8 : Nat) (m9 : Nat) (m10 : Nat) (m11 : Nat) (m12 : Nat) (m13 : Nat) (m14 : Nat) (m15 : Nat) (m16 : Nat) (k0 : Int32) : Met l yX7_count pwX7_count ({ frames := 1, cells := 0, slots := 0, locals := 22 } : Room) (va_Pc [.ref a0, .int k0] (fun U => U.heap.size = sz ∧ va_P (dC, dI) vwCl [(a0, .inr (7, [.int 0, .ref m1, .int 0, .int (-1), .int 0, .int 0, .int 0, .ref m2, .int 0, .int 0, .ref m3, .ref m4, .ref m5, .ref m6, .ref m7, .ref m8, .ref m9, .int 0, .ref m10, .ref m11, .ref m12, .int 0, .ref m13, .ref m14, .ref m15, .int 0, .ref m16, .int 0, .int 0]))] U.heap ∧ va_K (dC, dI) vwCl [] U ∧ va_D (fun _ => True) [(a0, .inr (7, [.int 0, .ref m1, .int 0, .int (-1), .int 0, .int 0, .int 0, .ref m2, .int 0, .int 0, .ref m3, .ref m4, .ref m5, .ref m6, .ref m7, .ref m8, .ref m9, .int 0, .ref m10, .ref m11, .ref m12, .int 0, .ref m13, .ref m14, .ref m15, .int 0, .ref m16, .int 0, .int 0]))])) (va_Qi (fun (r : Int32) (_ : Unit) => r = pf_count k0) (fun (_ : Unit) (t : State) => va_P (dC, dI) vwCl [] t.heap ∧ va_K (dC, dI) vwCl [] t ∧ va_D (va_A [(a0, .inr (7, [.int 0, .ref m1, .int 0, .int (-1), .int 0, .int 0, .int 0, .ref m2, .int 0, .int 0, .ref m3, .ref m4, .ref m5, .ref m6, .ref m7, .ref m8, .ref m9, .int 0, .ref m10, .ref m11, .ref m12, .int 0, .ref m13, .ref m14, .ref m15, .int 0, .ref m16, .int 0, .int 0]))] sz) []) (va_A [(a0, .inr (7, [.int 0, .ref m1, .int 0, .int (-1), .int 0, .int 0, .int 0, .ref m2, .int 0, .int 0, .ref m3, .ref m4, .ref m5, .ref m6, .ref m7, .ref m8, .ref m9, .int 0, .ref m10, .ref m11, .ref m12, .int 0, .ref m13, .ref m14, .ref m15, .int 0, .ref m16, .int 0, .int 0]))] sz)) 0 0 (va_A [(a0, .inr (7, [.int 0, .ref m1, .int 0, .int (-1), .int 0, .int 0, .int 0, .ref m2, .int 0, .int 0, .ref m3, .ref m4, .ref m5, .ref m6, .ref m7, .ref m8, .ref m9, .int 0, .ref m10, .ref m11, .ref m12, .int 0, .ref m13, .ref m14, .ref m15, .int 0, .ref m16, .int 0, .int 0]))] sz) := by
  refine Met.ofW (cc := cX7_count) (maxL := 2) (ret := (some .int)) (by decide) rfl ?_
  intro p e s m args below meth c s₁ B hml hv
  obtain ⟨rfl, hsz, hP, hK, hD0⟩ := hv
  have hx := B.exec
  have hb := B.bytes
  have hr := B.returns
  have hts0 := atoms_spec (ws := pwX7_count) B.pre
  have hts := fun w (h : w ∈ pwAll) => hts0 w (List.mem_cons_of_mem _ h)
  have hown : s.vm.findClass RX7 = some m.cls := findClass_of_methodNamed B.named
  have hlocks := B.notSynchronized
  subst hsz
  have hD := hD0.self (sz := s.heap.size)
  generalize hAe : va_A [(a0, .inr (7, [.int 0, .ref m1, .int 0, .int (-1), .int 0, .int 0, .int 0, .ref m2, .int 0, .int 0, .ref m3, .ref m4, .ref m5, .ref m6, .ref m7, .ref m8, .ref m9, .int 0, .ref m10, .ref m11, .ref m12, .int 0, .ref m13, .ref m14, .ref m15, .int 0, .ref m16, .int 0, .int 0]))] s.heap.size = A at hD ⊢
  have hA : ∀ q : Nat, s.heap.size ≤ q → A q := fun q h => by rw [← hAe]; exact Or.inr h
  have hS : va_S A s.heap s.heap [] := va_S.rf
  have hP : va_P (dC, dI) vwCl [(a0, .inr (7, [.int 0, .ref m1, .int 0, .int (-1), .int 0, .int 0, .int 0, .ref m2, .int 0, .int 0, .ref m3, .ref m4, .ref m5, .ref m6, .ref m7, .ref m8, .ref m9, .int 0, .ref m10, .ref m11, .ref m12, .int 0, .ref m13, .ref m14, .ref m15, .int 0, .ref m16, .int 0, .int 0]))] s.heap := hP
  have hl := lv_entry ([.ref a0, .int k0]) (n := 2) (Nat.le_of_ble_eq_true rfl)
  rw [lg_entry_eq]
  generalize (lg_sl ([.ref a0, .int k0]) ++ List.replicate (2 - (lg_sl ([.ref a0, .int k0])).length) Slot.unset).toArray = ls at hl ⊢
  have hl : lv_has ls 2 [(0, .ref a0), (1, .int k0)] := hl
  refine lv_iload_n hx hb dX7_count_0 rfl (lv_at hl 1 rfl) ?_
  refine lv_iconst (v := 0) hx hb dX7_count_1 (by decide) ?_
  refine lv_bipush (v := 6) hx hb dX7_count_2 (by decide) ?_
  have hPc := hP.sub (ws' := []) [] rfl
  have hDc := hD.sub (ws' := []) [] (by decide) rfl
  have hKc := hK.sub (tys' := []) [] rfl
  have hFc := va_free (wc := []) hD hS hA [] rfl
  refine va_calli (va_runS (As := [.int k0, .int 0, .int 6]) (rest := []) ⟨hx, hb, hml, hown, hts⟩ (c_X7_in l dC dI s.heap.size k0 0 6) (va_cwS 3 hts gg_RX7_63 rfl rfl rfl (by decide +kernel) ⟨Nat.le_of_ble_eq_true rfl, Nat.le_of_ble_eq_true rfl⟩) ⟨fun a U g mk q => by obtain ⟨q0, q1, qP, qK, qD⟩ := q; exact ⟨q0, q1, qP, va_K.moved (u := U) (U := U.calling g mk a) (Vm.Alike.refl U.vm) qK, qD⟩, fun U hU hW => ⟨rfl, by rw [hU], by rw [hU]; exact hPc, va_K.moved hW.alike hKc, hDc.weaken (fun _ _ _ _ => trivial)⟩⟩ rfl rfl hl.1 rfl (lv_room (Nat.le_of_ble_eq_true rfl)) dX7_count_4 ⟨Nat.le_of_ble_eq_true rfl, Nat.le_of_ble_eq_true rfl⟩) hS (fun q _ h => hFc q h) hFc (fun r1 u t H1 locs ht hvm hw hB hz1 hk1 hS => ?_)
  obtain ⟨hP1, hK1, hD1⟩ := hB
  rw [ht] at hP1
  have hK1 := va_K.moved hvm.symm hK1
  obtain ⟨hP, hD⟩ := va_join (wr := [(a0, .inr (7, [.int 0, .ref m1, .int 0, .int (-1), .int 0, .int 0, .int 0, .ref m2, .int 0, .int 0, .ref m3, .ref m4, .ref m5, .ref m6, .ref m7, .ref m8, .ref m9, .int 0, .ref m10, .ref m11, .ref m12, .int 0, .ref m13, .ref m14, .ref m15, .int 0, .ref m16, .int 0, .int 0]))]) (w1 := []) hP hD [] [0] rfl rfl (by decide) (by decide) hk1 hFc hP1 hD1
  have hK := (hK.sub (tys' := []) [] rfl).app hK1
  generalize H1 = H at hP hS ⊢
  have hP : va_P (dC, dI) vwCl [(a0, .inr (7, [.int 0, .ref m1, .int 0, .int (-1), .int 0, .int 0, .int 0, .ref m2, .int 0, .int 0, .ref m3, .ref m4, .ref m5, .ref m6, .ref m7, .ref m8, .ref m9, .int 0, .ref m10, .ref m11, .ref m12, .int 0, .ref m13, .ref m14, .ref m15, .int 0, .ref m16, .int 0, .int 0]))] H := hP
  have hD : va_D A [(a0, .inr (7, [.int 0, .ref m1, .int 0, .int (-1), .int 0, .int 0, .int 0, .ref m2, .int 0, .int 0, .ref m3, .ref m4, .ref m5, .ref m6, .ref m7, .ref m8, .ref m9, .int 0, .ref m10, .ref m11, .ref m12, .int 0, .ref m13, .ref m14, .ref m15, .int 0, .ref m16, .int 0, .int 0]))] := hD
  have hK : va_K (dC, dI) vwCl [] s := hK
  have hw : r1 = pf_in k0 0 6 := hw
  subst hw
  refine lv_if_ne (tgt := 13) hx hb dX7_count_7 (by decide) (fun c_7 => ?_) (fun c_7 => ?_)
  · skip
    refine lv_iload_n hx hb dX7_count_13 rfl (lv_at hl 1 rfl) ?_
    refine lv_iconst (v := 5) hx hb dX7_count_14 (by decide) ?_
    refine lv_icmp_ne (tgt := 23) hx hb dX7_count_15 (by decide) (fun c_15 => ?_) (fun c_15 => ?_)
    · skip
      refine lv_iload_n hx hb dX7_count_23 rfl (lv_at hl 1 rfl) ?_
      refine lv_bipush (v := 6) hx hb dX7_count_24 (by decide) ?_
      refine lv_icmp_ne (tgt := 34) hx hb dX7_count_26 (by decide) (fun c_26 => ?_) (fun c_26 => ?_)
      · skip
        refine lv_aload_n hx hb dX7_count_34 rfl (lv_at hl 0 rfl) ?_
        refine va_get (D := (dC, dI)) (ci := 7) (v := .int 0) (C := RX7) (T := TX7) (N := 29) hx hb hts inAll_7 hown hK hP 0 rfl rfl 2 (by decide) (hts (.fieldLink RX7 119 "LoopEnvelopesModel" "isTaken" "Z") k_170) (fun _ h9 => h9) rfl dX7_count_35 ?_
        refine lv_if_ne (tgt := 44) hx hb dX7_count_38 (by decide) (fun c_38 => absurd (rfl) c_38) (fun c_38 => ?_)
        refine lv_bipush (v := (-4)) hx hb dX7_count_41 (by decide) ?_
        have hP9 := hP.sub (ws' := []) [] rfl
        have hD9 := hD.sub (ws' := []) [] (by decide) rfl
        have hK9 := hK.sub (tys' := []) [] rfl
        exact W.iret (v := (-4)) hx hb hr (fun t ht hW => ⟨⟨(-4), (), rfl, by rw [pf_count_in c_7, if_neg c_15, if_neg c_26], by rw [ht]; exact hP9, va_K.moved hW.alike hK9, hD9⟩, hS.F ht⟩) hS.2.2 dX7_count_43
      · skip
        refine lv_aload_n hx hb dX7_count_29 rfl (lv_at hl 0 rfl) ?_
        refine va_get (D := (dC, dI)) (ci := 7) (v := .int 0) (C := RX7) (T := TX7) (N := 29) hx hb hts inAll_7 hown hK hP 0 rfl rfl 25 (by decide) (hts (.fieldLink RX7 223 "LoopEnvelopesModel" "answered" "I") k_176) (fun _ h9 => h9) rfl dX7_count_30 ?_
        have hP9 := hP.sub (ws' := []) [] rfl
        have hD9 := hD.sub (ws' := []) [] (by decide) rfl
        have hK9 := hK.sub (tys' := []) [] rfl
        exact W.iret (v := 0) hx hb hr (fun t ht hW => ⟨⟨0, (), rfl, by rw [pf_count_in c_7, if_neg c_15, if_pos c_26], by rw [ht]; exact hP9, va_K.moved hW.alike hK9, hD9⟩, hS.F ht⟩) hS.2.2 dX7_count_33
    · skip
      refine lv_aload_n hx hb dX7_count_18 rfl (lv_at hl 0 rfl) ?_
      refine va_get (D := (dC, dI)) (ci := 7) (v := .int 0) (C := RX7) (T := TX7) (N := 29) hx hb hts inAll_7 hown hK hP 0 rfl rfl 0 (by decide) (hts (.fieldLink RX7 67 "LoopEnvelopesModel" "size" "I") k_171) (fun _ h9 => h9) rfl dX7_count_19 ?_
      have hP9 := hP.sub (ws' := []) [] rfl
      have hD9 := hD.sub (ws' := []) [] (by decide) rfl
      have hK9 := hK.sub (tys' := []) [] rfl
      exact W.iret (v := 0) hx hb hr (fun t ht hW => ⟨⟨0, (), rfl, by rw [pf_count_in c_7, if_pos c_15], by rw [ht]; exact hP9, va_K.moved hW.alike hK9, hD9⟩, hS.F ht⟩) hS.2.2 dX7_count_22
  · skip
    refine lv_bipush (v := (-3)) hx hb dX7_count_10 (by decide) ?_
    have hP9 := hP.sub (ws' := []) [] rfl
    have hD9 := hD.sub (ws' := []) [] (by decide) rfl
    have hK9 := hK.sub (tys' := []) [] rfl
    exact W.iret (v := (-3)) hx hb hr (fun t ht hW => ⟨⟨(-3), (), rfl, (pf_count_out c_7).symm, by rw [ht]; exact hP9, va_K.moved hW.alike hK9, hD9⟩, hS.F ht⟩) hS.2.2 dX7_count_12

set_option maxHeartbeats 4000000 in
set_option maxRecDepth 100000 in
theorem c_X7_answered (l : Launch) (dC : Nat → ClassId) (dI : Nat → Nat → Nat) (sz : Nat) (a0 : Nat) (m1 : Nat) (m2 : Nat) (m3 : Nat) (m4 : Nat) (m5 : Nat) (m6 : Nat) (m7 : Nat) (m8 : Nat) (m9 : Nat) (m10 : Nat) (m11 : Nat) (m12 : Nat) (m13 : Nat) (m14 : Nat) (m15 : Nat) (m16 : Nat) (k0 : Int32) : Met l yX7_answered pwX7_answered ({ frames := 1, cells := 0, slots := 0, locals := 22 } : Room) (va_Pc [.ref a0, .int k0] (fun U => U.heap.size = sz ∧ va_P (dC, dI) vwCl [(a0, .inr (7, [.int 0, .ref m1, .int 0, .int (-1), .int 0, .int 0, .int 0, .ref m2, .int 0, .int 0, .ref m3, .ref m4, .ref m5, .ref m6, .ref m7, .ref m8, .ref m9, .int 0, .ref m10, .ref m11, .ref m12, .int 0, .ref m13, .ref m14, .ref m15, .int 0, .ref m16, .int 0, .int 0]))] U.heap ∧ va_K (dC, dI) vwCl [] U ∧ va_D (fun _ => True) [(a0, .inr (7, [.int 0, .ref m1, .int 0, .int (-1), .int 0, .int 0, .int 0, .ref m2, .int 0, .int 0, .ref m3, .ref m4, .ref m5, .ref m6, .ref m7, .ref m8, .ref m9, .int 0, .ref m10, .ref m11, .ref m12, .int 0, .ref m13, .ref m14, .ref m15, .int 0, .ref m16, .int 0, .int 0]))])) (va_Qi (fun (r : Int32) (_ : Unit) => r = (-2)) (fun (_ : Unit) (t : State) => va_P (dC, dI) vwCl [] t.heap ∧ va_K (dC, dI) vwCl [] t ∧ va_D (va_A [(a0, .inr (7, [.int 0, .ref m1, .int 0, .int (-1), .int 0, .int 0, .int 0, .ref m2, .int 0, .int 0, .ref m3, .ref m4, .ref m5, .ref m6, .ref m7, .ref m8, .ref m9, .int 0, .ref m10, .ref m11, .ref m12, .int 0, .ref m13, .ref m14, .ref m15, .int 0, .ref m16, .int 0, .int 0]))] sz) []) (va_A [(a0, .inr (7, [.int 0, .ref m1, .int 0, .int (-1), .int 0, .int 0, .int 0, .ref m2, .int 0, .int 0, .ref m3, .ref m4, .ref m5, .ref m6, .ref m7, .ref m8, .ref m9, .int 0, .ref m10, .ref m11, .ref m12, .int 0, .ref m13, .ref m14, .ref m15, .int 0, .ref m16, .int 0, .int 0]))] sz)) 0 0 (va_A [(a0, .inr (7, [.int 0, .ref m1, .int 0, .int (-1), .int 0, .int 0, .int 0, .ref m2, .int 0, .int 0, .ref m3, .ref m4, .ref m5, .ref m6, .ref m7, .ref m8, .ref m9, .int 0, .ref m10, .ref m11, .ref m12, .int 0, .ref m13, .ref m14, .ref m15, .int 0, .ref m16, .int 0, .int 0]))] sz) := by
  refine Met.ofW (cc := cX7_answered) (maxL := 2) (ret := (some .int)) (by decide) rfl ?_
  intro p e s m args below meth c s₁ B hml hv
  obtain ⟨rfl, hsz, hP, hK, hD0⟩ := hv
  have hx := B.exec
  have hb := B.bytes
  have hr := B.returns
  have hts0 := atoms_spec (ws := pwX7_answered) B.pre
  have hts := fun w (h : w ∈ pwAll) => hts0 w (List.mem_cons_of_mem _ h)
  have hown : s.vm.findClass RX7 = some m.cls := findClass_of_methodNamed B.named
  have hlocks := B.notSynchronized
  subst hsz
  have hD := hD0.self (sz := s.heap.size)
  generalize hAe : va_A [(a0, .inr (7, [.int 0, .ref m1, .int 0, .int (-1), .int 0, .int 0, .int 0, .ref m2, .int 0, .int 0, .ref m3, .ref m4, .ref m5, .ref m6, .ref m7, .ref m8, .ref m9, .int 0, .ref m10, .ref m11, .ref m12, .int 0, .ref m13, .ref m14, .ref m15, .int 0, .ref m16, .int 0, .int 0]))] s.heap.size = A at hD ⊢
  have hA : ∀ q : Nat, s.heap.size ≤ q → A q := fun q h => by rw [← hAe]; exact Or.inr h
  have hS : va_S A s.heap s.heap [] := va_S.rf
  have hP : va_P (dC, dI) vwCl [(a0, .inr (7, [.int 0, .ref m1, .int 0, .int (-1), .int 0, .int 0, .int 0, .ref m2, .int 0, .int 0, .ref m3, .ref m4, .ref m5, .ref m6, .ref m7, .ref m8, .ref m9, .int 0, .ref m10, .ref m11, .ref m12, .int 0, .ref m13, .ref m14, .ref m15, .int 0, .ref m16, .int 0, .int 0]))] s.heap := hP
  have hl := lv_entry ([.ref a0, .int k0]) (n := 2) (Nat.le_of_ble_eq_true rfl)
  rw [lg_entry_eq]
  generalize (lg_sl ([.ref a0, .int k0]) ++ List.replicate (2 - (lg_sl ([.ref a0, .int k0])).length) Slot.unset).toArray = ls at hl ⊢
  have hl : lv_has ls 2 [(0, .ref a0), (1, .int k0)] := hl
  refine lv_iload_n hx hb dX7_answered_0 rfl (lv_at hl 1 rfl) ?_
  refine lv_iconst (v := 0) hx hb dX7_answered_1 (by decide) ?_
  refine lv_aload_n hx hb dX7_answered_2 rfl (lv_at hl 0 rfl) ?_
  refine va_get (D := (dC, dI)) (ci := 7) (v := .int 0) (C := RX7) (T := TX7) (N := 29) hx hb hts inAll_7 hown hK hP 0 rfl rfl 25 (by decide) (hts (.fieldLink RX7 223 "LoopEnvelopesModel" "answered" "I") k_176) (fun _ h9 => h9) rfl dX7_answered_3 ?_
  refine lv_iconst (v := 1) hx hb dX7_answered_6 (by decide) ?_
  refine lv_isub hx hb dX7_answered_7 ?_
  refine pf_top (y := (-1)) (by decide) ?_
  have hPc := hP.sub (ws' := []) [] rfl
  have hDc := hD.sub (ws' := []) [] (by decide) rfl
  have hKc := hK.sub (tys' := []) [] rfl
  have hFc := va_free (wc := []) hD hS hA [] rfl
  refine va_calli (va_runS (As := [.int k0, .int 0, .int (-1)]) (rest := []) ⟨hx, hb, hml, hown, hts⟩ (c_X7_in l dC dI s.heap.size k0 0 (-1)) (va_cwS 3 hts gg_RX7_63 rfl rfl rfl (by decide +kernel) ⟨Nat.le_of_ble_eq_true rfl, Nat.le_of_ble_eq_true rfl⟩) ⟨fun a U g mk q => by obtain ⟨q0, q1, qP, qK, qD⟩ := q; exact ⟨q0, q1, qP, va_K.moved (u := U) (U := U.calling g mk a) (Vm.Alike.refl U.vm) qK, qD⟩, fun U hU hW => ⟨rfl, by rw [hU], by rw [hU]; exact hPc, va_K.moved hW.alike hKc, hDc.weaken (fun _ _ _ _ => trivial)⟩⟩ rfl rfl hl.1 rfl (lv_room (Nat.le_of_ble_eq_true rfl)) dX7_answered_8 ⟨Nat.le_of_ble_eq_true rfl, Nat.le_of_ble_eq_true rfl⟩) hS (fun q _ h => hFc q h) hFc (fun r1 u t H1 locs ht hvm hw hB hz1 hk1 hS => ?_)
  obtain ⟨hP1, hK1, hD1⟩ := hB
  rw [ht] at hP1
  have hK1 := va_K.moved hvm.symm hK1
  obtain ⟨hP, hD⟩ := va_join (wr := [(a0, .inr (7, [.int 0, .ref m1, .int 0, .int (-1), .int 0, .int 0, .int 0, .ref m2, .int 0, .int 0, .ref m3, .ref m4, .ref m5, .ref m6, .ref m7, .ref m8, .ref m9, .int 0, .ref m10, .ref m11, .ref m12, .int 0, .ref m13, .ref m14, .ref m15, .int 0, .ref m16, .int 0, .int 0]))]) (w1 := []) hP hD [] [0] rfl rfl (by decide) (by decide) hk1 hFc hP1 hD1
  have hK := (hK.sub (tys' := []) [] rfl).app hK1
  generalize H1 = H at hP hS ⊢
  have hP : va_P (dC, dI) vwCl [(a0, .inr (7, [.int 0, .ref m1, .int 0, .int (-1), .int 0, .int 0, .int 0, .ref m2, .int 0, .int 0, .ref m3, .ref m4, .ref m5, .ref m6, .ref m7, .ref m8, .ref m9, .int 0, .ref m10, .ref m11, .ref m12, .int 0, .ref m13, .ref m14, .ref m15, .int 0, .ref m16, .int 0, .int 0]))] H := hP
  have hD : va_D A [(a0, .inr (7, [.int 0, .ref m1, .int 0, .int (-1), .int 0, .int 0, .int 0, .ref m2, .int 0, .int 0, .ref m3, .ref m4, .ref m5, .ref m6, .ref m7, .ref m8, .ref m9, .int 0, .ref m10, .ref m11, .ref m12, .int 0, .ref m13, .ref m14, .ref m15, .int 0, .ref m16, .int 0, .int 0]))] := hD
  have hK : va_K (dC, dI) vwCl [] s := hK
  have hw : r1 = pf_in k0 0 (-1) := hw
  subst hw
  refine lv_if_eq (tgt := 23) hx hb dX7_answered_11 (by decide) (fun c_11 => ?_) (fun c_11 => absurd (pf_in_m1 k0) c_11)
  refine lv_bipush (v := (-2)) hx hb dX7_answered_23 (by decide) ?_
  have hP9 := hP.sub (ws' := []) [] rfl
  have hD9 := hD.sub (ws' := []) [] (by decide) rfl
  have hK9 := hK.sub (tys' := []) [] rfl
  exact W.iret (v := (-2)) hx hb hr (fun t ht hW => ⟨⟨(-2), (), rfl, rfl, by rw [ht]; exact hP9, va_K.moved hW.alike hK9, hD9⟩, hS.F ht⟩) hS.2.2 dX7_answered_25

set_option maxHeartbeats 4000000 in
set_option maxRecDepth 100000 in
theorem c_X7_turn (l : Launch) (dC : Nat → ClassId) (dI : Nat → Nat → Nat) (sz : Nat) (a0 : Nat) (m1 : Nat) (m2 : Nat) (m3 : Nat) (m4 : Nat) (m5 : Nat) (m6 : Nat) (m7 : Nat) (m8 : Nat) (m9 : Nat) (m10 : Nat) (m11 : Nat) (m12 : Nat) (m13 : Nat) (m14 : Nat) (m15 : Nat) (m16 : Nat) : Met l yX7_turn pwX7_turn ({ frames := 0, cells := 0, slots := 0, locals := 0 } : Room) (va_Pc [.ref a0] (fun U => U.heap.size = sz ∧ va_P (dC, dI) vwCl [(a0, .inr (7, [.int 0, .ref m1, .int 0, .int (-1), .int 0, .int 0, .int 0, .ref m2, .int 0, .int 0, .ref m3, .ref m4, .ref m5, .ref m6, .ref m7, .ref m8, .ref m9, .int 0, .ref m10, .ref m11, .ref m12, .int 0, .ref m13, .ref m14, .ref m15, .int 0, .ref m16, .int 0, .int 0]))] U.heap ∧ va_K (dC, dI) vwCl [] U ∧ va_D (fun _ => True) [(a0, .inr (7, [.int 0, .ref m1, .int 0, .int (-1), .int 0, .int 0, .int 0, .ref m2, .int 0, .int 0, .ref m3, .ref m4, .ref m5, .ref m6, .ref m7, .ref m8, .ref m9, .int 0, .ref m10, .ref m11, .ref m12, .int 0, .ref m13, .ref m14, .ref m15, .int 0, .ref m16, .int 0, .int 0]))])) (va_Qi (fun (r : Int32) (_ : Unit) => r = (-4)) (fun (_ : Unit) (t : State) => va_P (dC, dI) vwCl [] t.heap ∧ va_K (dC, dI) vwCl [] t ∧ va_D (va_A [(a0, .inr (7, [.int 0, .ref m1, .int 0, .int (-1), .int 0, .int 0, .int 0, .ref m2, .int 0, .int 0, .ref m3, .ref m4, .ref m5, .ref m6, .ref m7, .ref m8, .ref m9, .int 0, .ref m10, .ref m11, .ref m12, .int 0, .ref m13, .ref m14, .ref m15, .int 0, .ref m16, .int 0, .int 0]))] sz) []) (va_A [(a0, .inr (7, [.int 0, .ref m1, .int 0, .int (-1), .int 0, .int 0, .int 0, .ref m2, .int 0, .int 0, .ref m3, .ref m4, .ref m5, .ref m6, .ref m7, .ref m8, .ref m9, .int 0, .ref m10, .ref m11, .ref m12, .int 0, .ref m13, .ref m14, .ref m15, .int 0, .ref m16, .int 0, .int 0]))] sz)) 0 0 (va_A [(a0, .inr (7, [.int 0, .ref m1, .int 0, .int (-1), .int 0, .int 0, .int 0, .ref m2, .int 0, .int 0, .ref m3, .ref m4, .ref m5, .ref m6, .ref m7, .ref m8, .ref m9, .int 0, .ref m10, .ref m11, .ref m12, .int 0, .ref m13, .ref m14, .ref m15, .int 0, .ref m16, .int 0, .int 0]))] sz) := by
  refine Met.ofW (cc := cX7_turn) (maxL := 2) (ret := (some .int)) (by decide) rfl ?_
  intro p e s m args below meth c s₁ B hml hv
  obtain ⟨rfl, hsz, hP, hK, hD0⟩ := hv
  have hx := B.exec
  have hb := B.bytes
  have hr := B.returns
  have hts0 := atoms_spec (ws := pwX7_turn) B.pre
  have hts := fun w (h : w ∈ pwAll) => hts0 w (List.mem_cons_of_mem _ h)
  have hown : s.vm.findClass RX7 = some m.cls := findClass_of_methodNamed B.named
  have hlocks := B.notSynchronized
  subst hsz
  have hD := hD0.self (sz := s.heap.size)
  generalize hAe : va_A [(a0, .inr (7, [.int 0, .ref m1, .int 0, .int (-1), .int 0, .int 0, .int 0, .ref m2, .int 0, .int 0, .ref m3, .ref m4, .ref m5, .ref m6, .ref m7, .ref m8, .ref m9, .int 0, .ref m10, .ref m11, .ref m12, .int 0, .ref m13, .ref m14, .ref m15, .int 0, .ref m16, .int 0, .int 0]))] s.heap.size = A at hD ⊢
  have hA : ∀ q : Nat, s.heap.size ≤ q → A q := fun q h => by rw [← hAe]; exact Or.inr h
  have hS : va_S A s.heap s.heap [] := va_S.rf
  have hP : va_P (dC, dI) vwCl [(a0, .inr (7, [.int 0, .ref m1, .int 0, .int (-1), .int 0, .int 0, .int 0, .ref m2, .int 0, .int 0, .ref m3, .ref m4, .ref m5, .ref m6, .ref m7, .ref m8, .ref m9, .int 0, .ref m10, .ref m11, .ref m12, .int 0, .ref m13, .ref m14, .ref m15, .int 0, .ref m16, .int 0, .int 0]))] s.heap := hP
  have hl := lv_entry ([.ref a0]) (n := 2) (Nat.le_of_ble_eq_true rfl)
  rw [lg_entry_eq]
  generalize (lg_sl ([.ref a0]) ++ List.replicate (2 - (lg_sl ([.ref a0])).length) Slot.unset).toArray = ls at hl ⊢
  have hl : lv_has ls 2 [(0, .ref a0)] := hl
  refine lv_aload_n hx hb dX7_turn_0 rfl (lv_at hl 0 rfl) ?_
  refine va_get (D := (dC, dI)) (ci := 7) (v := .int 0) (C := RX7) (T := TX7) (N := 29) hx hb hts inAll_7 hown hK hP 0 rfl rfl 25 (by decide) (hts (.fieldLink RX7 223 "LoopEnvelopesModel" "answered" "I") k_176) (fun _ h9 => h9) rfl dX7_turn_1 ?_
  refine lv_sipush (v := 1200) hx hb dX7_turn_4 (by decide) ?_
  refine lv_icmp_le (tgt := 13) hx hb dX7_turn_7 (by decide) (fun c_7 => ?_) (fun c_7 => absurd (by decide) c_7)
  refine lv_aload_n hx hb dX7_turn_13 rfl (lv_at hl 0 rfl) ?_
  refine va_get (D := (dC, dI)) (ci := 7) (v := .int 0) (C := RX7) (T := TX7) (N := 29) hx hb hts inAll_7 hown hK hP 0 rfl rfl 25 (by decide) (hts (.fieldLink RX7 223 "LoopEnvelopesModel" "answered" "I") k_176) (fun _ h9 => h9) rfl dX7_turn_14 ?_
  refine lv_if_ne (tgt := 23) hx hb dX7_turn_17 (by decide) (fun c_17 => absurd (rfl) c_17) (fun c_17 => ?_)
  refine lv_bipush (v := (-4)) hx hb dX7_turn_20 (by decide) ?_
  have hP9 := hP.sub (ws' := []) [] rfl
  have hD9 := hD.sub (ws' := []) [] (by decide) rfl
  have hK9 := hK.sub (tys' := []) [] rfl
  exact W.iret (v := (-4)) hx hb hr (fun t ht hW => ⟨⟨(-4), (), rfl, rfl, by rw [ht]; exact hP9, va_K.moved hW.alike hK9, hD9⟩, hS.F ht⟩) hS.2.2 dX7_turn_22

set_option maxHeartbeats 4000000 in
set_option maxRecDepth 100000 in
theorem c_X7_isOpening (l : Launch) (dC : Nat → ClassId) (dI : Nat → Nat → Nat) (sz : Nat) (a0 : Nat) (m1 : Nat) (m2 : Nat) (m3 : Nat) (m4 : Nat) (m5 : Nat) (m6 : Nat) (m7 : Nat) (m8 : Nat) (m9 : Nat) (m10 : Nat) (m11 : Nat) (m12 : Nat) (m13 : Nat) (m14 : Nat) (m15 : Nat) (m16 : Nat) : Met l yX7_isOpening pwX7_isOpening ({ frames := 0, cells := 0, slots := 0, locals := 0 } : Room) (va_Pc [.ref a0] (fun U => U.heap.size = sz ∧ va_P (dC, dI) vwCl [(a0, .inr (7, [.int 0, .ref m1, .int 0, .int (-1), .int 0, .int 0, .int 0, .ref m2, .int 0, .int 0, .ref m3, .ref m4, .ref m5, .ref m6, .ref m7, .ref m8, .ref m9, .int 0, .ref m10, .ref m11, .ref m12, .int 0, .ref m13, .ref m14, .ref m15, .int 0, .ref m16, .int 0, .int 0]))] U.heap ∧ va_K (dC, dI) vwCl [] U ∧ va_D (fun _ => True) [(a0, .inr (7, [.int 0, .ref m1, .int 0, .int (-1), .int 0, .int 0, .int 0, .ref m2, .int 0, .int 0, .ref m3, .ref m4, .ref m5, .ref m6, .ref m7, .ref m8, .ref m9, .int 0, .ref m10, .ref m11, .ref m12, .int 0, .ref m13, .ref m14, .ref m15, .int 0, .ref m16, .int 0, .int 0]))])) (va_Qi (fun (r : Int32) (_ : Unit) => r = 0) (fun (_ : Unit) (t : State) => va_P (dC, dI) vwCl [(a0, .inr (7, [.int 0, .ref m1, .int 0, .int (-1), .int 0, .int 0, .int 0, .ref m2, .int 0, .int 0, .ref m3, .ref m4, .ref m5, .ref m6, .ref m7, .ref m8, .ref m9, .int 0, .ref m10, .ref m11, .ref m12, .int 0, .ref m13, .ref m14, .ref m15, .int 0, .ref m16, .int 0, .int 0]))] t.heap ∧ va_K (dC, dI) vwCl [] t ∧ va_D (va_A [(a0, .inr (7, [.int 0, .ref m1, .int 0, .int (-1), .int 0, .int 0, .int 0, .ref m2, .int 0, .int 0, .ref m3, .ref m4, .ref m5, .ref m6, .ref m7, .ref m8, .ref m9, .int 0, .ref m10, .ref m11, .ref m12, .int 0, .ref m13, .ref m14, .ref m15, .int 0, .ref m16, .int 0, .int 0]))] sz) [(a0, .inr (7, [.int 0, .ref m1, .int 0, .int (-1), .int 0, .int 0, .int 0, .ref m2, .int 0, .int 0, .ref m3, .ref m4, .ref m5, .ref m6, .ref m7, .ref m8, .ref m9, .int 0, .ref m10, .ref m11, .ref m12, .int 0, .ref m13, .ref m14, .ref m15, .int 0, .ref m16, .int 0, .int 0]))]) (va_A [(a0, .inr (7, [.int 0, .ref m1, .int 0, .int (-1), .int 0, .int 0, .int 0, .ref m2, .int 0, .int 0, .ref m3, .ref m4, .ref m5, .ref m6, .ref m7, .ref m8, .ref m9, .int 0, .ref m10, .ref m11, .ref m12, .int 0, .ref m13, .ref m14, .ref m15, .int 0, .ref m16, .int 0, .int 0]))] sz)) 0 0 (va_A [(a0, .inr (7, [.int 0, .ref m1, .int 0, .int (-1), .int 0, .int 0, .int 0, .ref m2, .int 0, .int 0, .ref m3, .ref m4, .ref m5, .ref m6, .ref m7, .ref m8, .ref m9, .int 0, .ref m10, .ref m11, .ref m12, .int 0, .ref m13, .ref m14, .ref m15, .int 0, .ref m16, .int 0, .int 0]))] sz) := by
  refine Met.ofW (cc := cX7_isOpening) (maxL := 3) (ret := (some .boolean)) (by decide) rfl ?_
  intro p e s m args below meth c s₁ B hml hv
  obtain ⟨rfl, hsz, hP, hK, hD0⟩ := hv
  have hx := B.exec
  have hb := B.bytes
  have hr := B.returns
  have hts0 := atoms_spec (ws := pwX7_isOpening) B.pre
  have hts := fun w (h : w ∈ pwAll) => hts0 w (List.mem_cons_of_mem _ h)
  have hown : s.vm.findClass RX7 = some m.cls := findClass_of_methodNamed B.named
  have hlocks := B.notSynchronized
  subst hsz
  have hD := hD0.self (sz := s.heap.size)
  generalize hAe : va_A [(a0, .inr (7, [.int 0, .ref m1, .int 0, .int (-1), .int 0, .int 0, .int 0, .ref m2, .int 0, .int 0, .ref m3, .ref m4, .ref m5, .ref m6, .ref m7, .ref m8, .ref m9, .int 0, .ref m10, .ref m11, .ref m12, .int 0, .ref m13, .ref m14, .ref m15, .int 0, .ref m16, .int 0, .int 0]))] s.heap.size = A at hD ⊢
  have hA : ∀ q : Nat, s.heap.size ≤ q → A q := fun q h => by rw [← hAe]; exact Or.inr h
  have hS : va_S A s.heap s.heap [] := va_S.rf
  have hP : va_P (dC, dI) vwCl [(a0, .inr (7, [.int 0, .ref m1, .int 0, .int (-1), .int 0, .int 0, .int 0, .ref m2, .int 0, .int 0, .ref m3, .ref m4, .ref m5, .ref m6, .ref m7, .ref m8, .ref m9, .int 0, .ref m10, .ref m11, .ref m12, .int 0, .ref m13, .ref m14, .ref m15, .int 0, .ref m16, .int 0, .int 0]))] s.heap := hP
  have hl := lv_entry ([.ref a0]) (n := 3) (Nat.le_of_ble_eq_true rfl)
  rw [lg_entry_eq]
  generalize (lg_sl ([.ref a0]) ++ List.replicate (3 - (lg_sl ([.ref a0])).length) Slot.unset).toArray = ls at hl ⊢
  have hl : lv_has ls 3 [(0, .ref a0)] := hl
  refine lv_aload_n hx hb dX7_isOpening_0 rfl (lv_at hl 0 rfl) ?_
  refine va_get (D := (dC, dI)) (ci := 7) (v := .int 0) (C := RX7) (T := TX7) (N := 29) hx hb hts inAll_7 hown hK hP 0 rfl rfl 0 (by decide) (hts (.fieldLink RX7 67 "LoopEnvelopesModel" "size" "I") k_171) (fun _ h9 => h9) rfl dX7_isOpening_1 ?_
  refine lv_bipush (v := 16) hx hb dX7_isOpening_4 (by decide) ?_
  refine lv_icmp_lt (tgt := 46) hx hb dX7_isOpening_6 (by decide) (fun c_6 => ?_) (fun c_6 => absurd (by decide) c_6)
  refine lv_iconst (v := 0) hx hb dX7_isOpening_46 (by decide) ?_
  refine lv_istore_n (lv' := [(1, .int 0), (0, .ref a0)]) hx hb dX7_isOpening_47 rfl hl (by decide) rfl (fun ls hl => ?_)
  refine lv_iconst (v := 4) hx hb dX7_isOpening_48 (by decide) ?_
  refine lv_istore_n (lv' := [(2, .int 4), (1, .int 0), (0, .ref a0)]) hx hb dX7_isOpening_49 rfl hl (by decide) rfl (fun ls hl => ?_)
  refine lv_iload_n hx hb dX7_isOpening_50 rfl (lv_at hl 0 rfl) ?_
  refine lv_bipush (v := 13) hx hb dX7_isOpening_51 (by decide) ?_
  refine lv_icmp_ge (tgt := 76) hx hb dX7_isOpening_53 (by decide) (fun c_53 => absurd c_53 (by decide)) (fun c_53 => ?_)
  refine lv_iload_n hx hb dX7_isOpening_56 rfl (lv_at hl 1 rfl) ?_
  refine lv_if_eq (tgt := 76) hx hb dX7_isOpening_57 (by decide) (fun c_57 => ?_) (fun c_57 => absurd (rfl) c_57)
  refine lv_iload_n hx hb dX7_isOpening_76 rfl (lv_at hl 1 rfl) ?_
  refine lv_if_eq (tgt := 187) hx hb dX7_isOpening_77 (by decide) (fun c_77 => ?_) (fun c_77 => absurd (rfl) c_77)
  refine lv_iconst (v := 0) hx hb dX7_isOpening_187 (by decide) ?_
  have hP9 := hP.sub (ws' := [(a0, .inr (7, [.int 0, .ref m1, .int 0, .int (-1), .int 0, .int 0, .int 0, .ref m2, .int 0, .int 0, .ref m3, .ref m4, .ref m5, .ref m6, .ref m7, .ref m8, .ref m9, .int 0, .ref m10, .ref m11, .ref m12, .int 0, .ref m13, .ref m14, .ref m15, .int 0, .ref m16, .int 0, .int 0]))]) [0] rfl
  have hD9 := hD.sub (ws' := [(a0, .inr (7, [.int 0, .ref m1, .int 0, .int (-1), .int 0, .int 0, .int 0, .ref m2, .int 0, .int 0, .ref m3, .ref m4, .ref m5, .ref m6, .ref m7, .ref m8, .ref m9, .int 0, .ref m10, .ref m11, .ref m12, .int 0, .ref m13, .ref m14, .ref m15, .int 0, .ref m16, .int 0, .int 0]))]) [0] (by decide) rfl
  have hK9 := hK.sub (tys' := []) [] rfl
  exact W.zret (v := 0) hx hb hr rfl (fun t ht hW => ⟨⟨0, (), rfl, rfl, by rw [ht]; exact hP9, va_K.moved hW.alike hK9, hD9⟩, hS.F ht⟩) hS.2.2 dX7_isOpening_188

set_option maxHeartbeats 4000000 in
set_option maxRecDepth 100000 in
theorem c_X7_found (l : Launch) (dC : Nat → ClassId) (dI : Nat → Nat → Nat) (sz : Nat) (a0 : Nat) (m1 : Nat) (m2 : Nat) (m3 : Nat) (m4 : Nat) (m5 : Nat) (m6 : Nat) (m7 : Nat) (m8 : Nat) (m9 : Nat) (m10 : Nat) (m11 : Nat) (m12 : Nat) (m13 : Nat) (m14 : Nat) (m15 : Nat) (m16 : Nat) (fi : Int32) (pl : Int32) : Met l yX7_found pwX7_found ({ frames := 0, cells := 0, slots := 0, locals := 0 } : Room) (va_Pc [.ref a0, .int fi, .int pl] (fun U => U.heap.size = sz ∧ va_P (dC, dI) vwCl [(a0, .inr (7, [.int 0, .ref m1, .int 0, .int (-1), .int 0, .int 0, .int 0, .ref m2, .int 0, .int 0, .ref m3, .ref m4, .ref m5, .ref m6, .ref m7, .ref m8, .ref m9, .int 0, .ref m10, .ref m11, .ref m12, .int 0, .ref m13, .ref m14, .ref m15, .int 0, .ref m16, .int 0, .int 0]))] U.heap ∧ va_K (dC, dI) vwCl [] U ∧ va_D (fun _ => True) [(a0, .inr (7, [.int 0, .ref m1, .int 0, .int (-1), .int 0, .int 0, .int 0, .ref m2, .int 0, .int 0, .ref m3, .ref m4, .ref m5, .ref m6, .ref m7, .ref m8, .ref m9, .int 0, .ref m10, .ref m11, .ref m12, .int 0, .ref m13, .ref m14, .ref m15, .int 0, .ref m16, .int 0, .int 0]))])) (va_Qi (fun (r : Int32) (_ : Unit) => r = fi) (fun (_ : Unit) (t : State) => va_P (dC, dI) vwCl [] t.heap ∧ va_K (dC, dI) vwCl [] t ∧ va_D (va_A [(a0, .inr (7, [.int 0, .ref m1, .int 0, .int (-1), .int 0, .int 0, .int 0, .ref m2, .int 0, .int 0, .ref m3, .ref m4, .ref m5, .ref m6, .ref m7, .ref m8, .ref m9, .int 0, .ref m10, .ref m11, .ref m12, .int 0, .ref m13, .ref m14, .ref m15, .int 0, .ref m16, .int 0, .int 0]))] sz) []) (va_A [(a0, .inr (7, [.int 0, .ref m1, .int 0, .int (-1), .int 0, .int 0, .int 0, .ref m2, .int 0, .int 0, .ref m3, .ref m4, .ref m5, .ref m6, .ref m7, .ref m8, .ref m9, .int 0, .ref m10, .ref m11, .ref m12, .int 0, .ref m13, .ref m14, .ref m15, .int 0, .ref m16, .int 0, .int 0]))] sz)) 0 0 (va_A [(a0, .inr (7, [.int 0, .ref m1, .int 0, .int (-1), .int 0, .int 0, .int 0, .ref m2, .int 0, .int 0, .ref m3, .ref m4, .ref m5, .ref m6, .ref m7, .ref m8, .ref m9, .int 0, .ref m10, .ref m11, .ref m12, .int 0, .ref m13, .ref m14, .ref m15, .int 0, .ref m16, .int 0, .int 0]))] sz) := by
  refine Met.ofW (cc := cX7_found) (maxL := 3) (ret := (some .int)) (by decide) rfl ?_
  intro p e s m args below meth c s₁ B hml hv
  obtain ⟨rfl, hsz, hP, hK, hD0⟩ := hv
  have hx := B.exec
  have hb := B.bytes
  have hr := B.returns
  have hts0 := atoms_spec (ws := pwX7_found) B.pre
  have hts := fun w (h : w ∈ pwAll) => hts0 w (List.mem_cons_of_mem _ h)
  have hown : s.vm.findClass RX7 = some m.cls := findClass_of_methodNamed B.named
  have hlocks := B.notSynchronized
  subst hsz
  have hD := hD0.self (sz := s.heap.size)
  generalize hAe : va_A [(a0, .inr (7, [.int 0, .ref m1, .int 0, .int (-1), .int 0, .int 0, .int 0, .ref m2, .int 0, .int 0, .ref m3, .ref m4, .ref m5, .ref m6, .ref m7, .ref m8, .ref m9, .int 0, .ref m10, .ref m11, .ref m12, .int 0, .ref m13, .ref m14, .ref m15, .int 0, .ref m16, .int 0, .int 0]))] s.heap.size = A at hD ⊢
  have hA : ∀ q : Nat, s.heap.size ≤ q → A q := fun q h => by rw [← hAe]; exact Or.inr h
  have hS : va_S A s.heap s.heap [] := va_S.rf
  have hP : va_P (dC, dI) vwCl [(a0, .inr (7, [.int 0, .ref m1, .int 0, .int (-1), .int 0, .int 0, .int 0, .ref m2, .int 0, .int 0, .ref m3, .ref m4, .ref m5, .ref m6, .ref m7, .ref m8, .ref m9, .int 0, .ref m10, .ref m11, .ref m12, .int 0, .ref m13, .ref m14, .ref m15, .int 0, .ref m16, .int 0, .int 0]))] s.heap := hP
  have hl := lv_entry ([.ref a0, .int fi, .int pl]) (n := 3) (Nat.le_of_ble_eq_true rfl)
  rw [lg_entry_eq]
  generalize (lg_sl ([.ref a0, .int fi, .int pl]) ++ List.replicate (3 - (lg_sl ([.ref a0, .int fi, .int pl])).length) Slot.unset).toArray = ls at hl ⊢
  have hl : lv_has ls 3 [(0, .ref a0), (1, .int fi), (2, .int pl)] := hl
  refine lv_aload_n hx hb dX7_found_0 rfl (lv_at hl 0 rfl) ?_
  refine lv_iconst (v := 0) hx hb dX7_found_1 (by decide) ?_
  refine va_put (D := (dC, dI)) (ci := 7) (v := .int 0) (ty := .boolean) (C := RX7) (T := TX7) (N := 29) hx hb hts inAll_7 tyX7 tyX7_ok nmX7 hown hK hP hD hS 0 rfl rfl 2 (by decide) (hts (.fieldLink RX7 119 "LoopEnvelopesModel" "isTaken" "Z") k_170) (fun _ h9 => h9) rfl (by decide +kernel) rfl rfl (Nat.le_of_ble_eq_true rfl) dX7_found_2 (fun H locs hP hD hS => ?_)
  have hP : va_P (dC, dI) vwCl [(a0, .inr (7, [.int 0, .ref m1, .int 0, .int (-1), .int 0, .int 0, .int 0, .ref m2, .int 0, .int 0, .ref m3, .ref m4, .ref m5, .ref m6, .ref m7, .ref m8, .ref m9, .int 0, .ref m10, .ref m11, .ref m12, .int 0, .ref m13, .ref m14, .ref m15, .int 0, .ref m16, .int 0, .int 0]))] H := hP
  have hD : va_D A [(a0, .inr (7, [.int 0, .ref m1, .int 0, .int (-1), .int 0, .int 0, .int 0, .ref m2, .int 0, .int 0, .ref m3, .ref m4, .ref m5, .ref m6, .ref m7, .ref m8, .ref m9, .int 0, .ref m10, .ref m11, .ref m12, .int 0, .ref m13, .ref m14, .ref m15, .int 0, .ref m16, .int 0, .int 0]))] := hD
  refine lv_aload_n hx hb dX7_found_5 rfl (lv_at hl 0 rfl) ?_
  refine lv_iload_n hx hb dX7_found_6 rfl (lv_at hl 2 rfl) ?_
  refine va_put (D := (dC, dI)) (ci := 7) (v := .int pl) (ty := .int) (C := RX7) (T := TX7) (N := 29) hx hb hts inAll_7 tyX7 tyX7_ok nmX7 hown hK hP hD hS 0 rfl rfl 3 (by decide) (hts (.fieldLink RX7 13 "LoopEnvelopesModel" "where" "I") k_153) (fun _ h9 => h9) rfl (by decide +kernel) rfl rfl (Nat.le_of_ble_eq_true rfl) dX7_found_7 (fun H locs hP hD hS => ?_)
  have hP : va_P (dC, dI) vwCl [(a0, .inr (7, [.int 0, .ref m1, .int 0, .int pl, .int 0, .int 0, .int 0, .ref m2, .int 0, .int 0, .ref m3, .ref m4, .ref m5, .ref m6, .ref m7, .ref m8, .ref m9, .int 0, .ref m10, .ref m11, .ref m12, .int 0, .ref m13, .ref m14, .ref m15, .int 0, .ref m16, .int 0, .int 0]))] H := hP
  have hD : va_D A [(a0, .inr (7, [.int 0, .ref m1, .int 0, .int pl, .int 0, .int 0, .int 0, .ref m2, .int 0, .int 0, .ref m3, .ref m4, .ref m5, .ref m6, .ref m7, .ref m8, .ref m9, .int 0, .ref m10, .ref m11, .ref m12, .int 0, .ref m13, .ref m14, .ref m15, .int 0, .ref m16, .int 0, .int 0]))] := hD
  refine lv_iload_n hx hb dX7_found_10 rfl (lv_at hl 1 rfl) ?_
  have hP9 := hP.sub (ws' := []) [] rfl
  have hD9 := hD.sub (ws' := []) [] (by decide) rfl
  have hK9 := hK.sub (tys' := []) [] rfl
  exact W.iret (v := fi) hx hb hr (fun t ht hW => ⟨⟨fi, (), rfl, rfl, by rw [ht]; exact hP9, va_K.moved hW.alike hK9, hD9⟩, hS.F ht⟩) hS.2.2 dX7_found_11

set_option maxHeartbeats 4000000 in
set_option maxRecDepth 100000 in
theorem c_X7_read (l : Launch) (dC : Nat → ClassId) (dI : Nat → Nat → Nat) (sz : Nat) (a0 : Nat) (m1 : Nat) (m2 : Nat) (m3 : Nat) (m4 : Nat) (m5 : Nat) (m6 : Nat) (m7 : Nat) (m8 : Nat) (m9 : Nat) (m10 : Nat) (m11 : Nat) (m12 : Nat) (m13 : Nat) (m14 : Nat) (m15 : Nat) (m16 : Nat) : Met l yX7_read pwX7_read ({ frames := 1, cells := 0, slots := 0, locals := 22 } : Room) (va_Pc [.ref a0] (fun U => U.heap.size = sz ∧ va_P (dC, dI) vwCl [(a0, .inr (7, [.int 0, .ref m1, .int 0, .int (-1), .int 0, .int 0, .int 0, .ref m2, .int 0, .int 0, .ref m3, .ref m4, .ref m5, .ref m6, .ref m7, .ref m8, .ref m9, .int 0, .ref m10, .ref m11, .ref m12, .int 0, .ref m13, .ref m14, .ref m15, .int 0, .ref m16, .int 0, .int 0]))] U.heap ∧ va_K (dC, dI) vwCl [] U ∧ va_D (fun _ => True) [(a0, .inr (7, [.int 0, .ref m1, .int 0, .int (-1), .int 0, .int 0, .int 0, .ref m2, .int 0, .int 0, .ref m3, .ref m4, .ref m5, .ref m6, .ref m7, .ref m8, .ref m9, .int 0, .ref m10, .ref m11, .ref m12, .int 0, .ref m13, .ref m14, .ref m15, .int 0, .ref m16, .int 0, .int 0]))])) (va_Qi (fun (r : Int32) (_ : Unit) => r = 1) (fun (_ : Unit) (t : State) => va_P (dC, dI) vwCl [] t.heap ∧ va_K (dC, dI) vwCl [] t ∧ va_D (va_A [(a0, .inr (7, [.int 0, .ref m1, .int 0, .int (-1), .int 0, .int 0, .int 0, .ref m2, .int 0, .int 0, .ref m3, .ref m4, .ref m5, .ref m6, .ref m7, .ref m8, .ref m9, .int 0, .ref m10, .ref m11, .ref m12, .int 0, .ref m13, .ref m14, .ref m15, .int 0, .ref m16, .int 0, .int 0]))] sz) []) (va_A [(a0, .inr (7, [.int 0, .ref m1, .int 0, .int (-1), .int 0, .int 0, .int 0, .ref m2, .int 0, .int 0, .ref m3, .ref m4, .ref m5, .ref m6, .ref m7, .ref m8, .ref m9, .int 0, .ref m10, .ref m11, .ref m12, .int 0, .ref m13, .ref m14, .ref m15, .int 0, .ref m16, .int 0, .int 0]))] sz)) 0 0 (va_A [(a0, .inr (7, [.int 0, .ref m1, .int 0, .int (-1), .int 0, .int 0, .int 0, .ref m2, .int 0, .int 0, .ref m3, .ref m4, .ref m5, .ref m6, .ref m7, .ref m8, .ref m9, .int 0, .ref m10, .ref m11, .ref m12, .int 0, .ref m13, .ref m14, .ref m15, .int 0, .ref m16, .int 0, .int 0]))] sz) := by
  refine Met.ofW (cc := cX7_read) (maxL := 5) (ret := (some .int)) (by decide) rfl ?_
  intro p e s m args below meth c s₁ B hml hv
  obtain ⟨rfl, hsz, hP, hK, hD0⟩ := hv
  have hx := B.exec
  have hb := B.bytes
  have hr := B.returns
  have hts0 := atoms_spec (ws := pwX7_read) B.pre
  have hts := fun w (h : w ∈ pwAll) => hts0 w (List.mem_cons_of_mem _ h)
  have hown : s.vm.findClass RX7 = some m.cls := findClass_of_methodNamed B.named
  have hlocks := B.notSynchronized
  subst hsz
  have hD := hD0.self (sz := s.heap.size)
  generalize hAe : va_A [(a0, .inr (7, [.int 0, .ref m1, .int 0, .int (-1), .int 0, .int 0, .int 0, .ref m2, .int 0, .int 0, .ref m3, .ref m4, .ref m5, .ref m6, .ref m7, .ref m8, .ref m9, .int 0, .ref m10, .ref m11, .ref m12, .int 0, .ref m13, .ref m14, .ref m15, .int 0, .ref m16, .int 0, .int 0]))] s.heap.size = A at hD ⊢
  have hA : ∀ q : Nat, s.heap.size ≤ q → A q := fun q h => by rw [← hAe]; exact Or.inr h
  have hS : va_S A s.heap s.heap [] := va_S.rf
  have hP : va_P (dC, dI) vwCl [(a0, .inr (7, [.int 0, .ref m1, .int 0, .int (-1), .int 0, .int 0, .int 0, .ref m2, .int 0, .int 0, .ref m3, .ref m4, .ref m5, .ref m6, .ref m7, .ref m8, .ref m9, .int 0, .ref m10, .ref m11, .ref m12, .int 0, .ref m13, .ref m14, .ref m15, .int 0, .ref m16, .int 0, .int 0]))] s.heap := hP
  have hl := lv_entry ([.ref a0]) (n := 5) (Nat.le_of_ble_eq_true rfl)
  rw [lg_entry_eq]
  generalize (lg_sl ([.ref a0]) ++ List.replicate (5 - (lg_sl ([.ref a0])).length) Slot.unset).toArray = ls at hl ⊢
  have hl : lv_has ls 5 [(0, .ref a0)] := hl
  refine lv_aload_n hx hb dX7_read_0 rfl (lv_at hl 0 rfl) ?_
  have hPc := hP.sub (ws' := [(a0, .inr (7, [.int 0, .ref m1, .int 0, .int (-1), .int 0, .int 0, .int 0, .ref m2, .int 0, .int 0, .ref m3, .ref m4, .ref m5, .ref m6, .ref m7, .ref m8, .ref m9, .int 0, .ref m10, .ref m11, .ref m12, .int 0, .ref m13, .ref m14, .ref m15, .int 0, .ref m16, .int 0, .int 0]))]) [0] rfl
  have hDc := hD.sub (ws' := [(a0, .inr (7, [.int 0, .ref m1, .int 0, .int (-1), .int 0, .int 0, .int 0, .ref m2, .int 0, .int 0, .ref m3, .ref m4, .ref m5, .ref m6, .ref m7, .ref m8, .ref m9, .int 0, .ref m10, .ref m11, .ref m12, .int 0, .ref m13, .ref m14, .ref m15, .int 0, .ref m16, .int 0, .int 0]))]) [0] (by decide) rfl
  have hKc := hK.sub (tys' := []) [] rfl
  have hFc := va_free (wc := [(a0, .inr (7, [.int 0, .ref m1, .int 0, .int (-1), .int 0, .int 0, .int 0, .ref m2, .int 0, .int 0, .ref m3, .ref m4, .ref m5, .ref m6, .ref m7, .ref m8, .ref m9, .int 0, .ref m10, .ref m11, .ref m12, .int 0, .ref m13, .ref m14, .ref m15, .int 0, .ref m16, .int 0, .int 0]))]) hD hS hA [0] rfl
  refine va_calli (va_runV (As := []) (rest := []) ⟨hx, hb, hml, hown, hts⟩ (c_X7_isOpening l dC dI s.heap.size a0 m1 m2 m3 m4 m5 m6 m7 m8 m9 m10 m11 m12 m13 m14 m15 m16) (cwV 0 hts gg_RX7_147 rfl rfl rfl (by decide +kernel) ⟨Nat.le_of_ble_eq_true rfl, Nat.le_of_ble_eq_true rfl⟩) ⟨fun a U g mk q => by obtain ⟨q0, q1, qP, qK, qD⟩ := q; exact ⟨q0, q1, qP, va_K.moved (u := U) (U := U.calling g mk a) (Vm.Alike.refl U.vm) qK, qD⟩, va_recv hK hP (ci := 7) (q0 := 0) rfl rfl, fun U hU hW => ⟨rfl, by rw [hU], by rw [hU]; exact hPc, va_K.moved hW.alike hKc, hDc.weaken (fun _ _ _ _ => trivial)⟩⟩ rfl rfl hl.1 rfl (lv_room (Nat.le_of_ble_eq_true rfl)) dX7_read_1 ⟨Nat.le_of_ble_eq_true rfl, Nat.le_of_ble_eq_true rfl⟩) hS (fun q _ h => hFc q h) hFc (fun r1 u t H1 locs ht hvm hw hB hz1 hk1 hS => ?_)
  obtain ⟨hP1, hK1, hD1⟩ := hB
  rw [ht] at hP1
  have hK1 := va_K.moved hvm.symm hK1
  obtain ⟨hP, hD⟩ := va_join (wr := []) (w1 := [(a0, .inr (7, [.int 0, .ref m1, .int 0, .int (-1), .int 0, .int 0, .int 0, .ref m2, .int 0, .int 0, .ref m3, .ref m4, .ref m5, .ref m6, .ref m7, .ref m8, .ref m9, .int 0, .ref m10, .ref m11, .ref m12, .int 0, .ref m13, .ref m14, .ref m15, .int 0, .ref m16, .int 0, .int 0]))]) hP hD [0] [] rfl rfl (by decide) (by decide) hk1 hFc hP1 hD1
  have hK := (hK.sub (tys' := []) [] rfl).app hK1
  generalize H1 = H at hP hS ⊢
  have hP : va_P (dC, dI) vwCl [(a0, .inr (7, [.int 0, .ref m1, .int 0, .int (-1), .int 0, .int 0, .int 0, .ref m2, .int 0, .int 0, .ref m3, .ref m4, .ref m5, .ref m6, .ref m7, .ref m8, .ref m9, .int 0, .ref m10, .ref m11, .ref m12, .int 0, .ref m13, .ref m14, .ref m15, .int 0, .ref m16, .int 0, .int 0]))] H := hP
  have hD : va_D A [(a0, .inr (7, [.int 0, .ref m1, .int 0, .int (-1), .int 0, .int 0, .int 0, .ref m2, .int 0, .int 0, .ref m3, .ref m4, .ref m5, .ref m6, .ref m7, .ref m8, .ref m9, .int 0, .ref m10, .ref m11, .ref m12, .int 0, .ref m13, .ref m14, .ref m15, .int 0, .ref m16, .int 0, .int 0]))] := hD
  have hK : va_K (dC, dI) vwCl [] s := hK
  have hw : r1 = 0 := hw
  subst hw
  refine lv_if_ne (tgt := 14) hx hb dX7_read_4 (by decide) (fun c_4 => absurd (rfl) c_4) (fun c_4 => ?_)
  refine lv_aload_n hx hb dX7_read_7 rfl (lv_at hl 0 rfl) ?_
  refine lv_iconst (v := 1) hx hb dX7_read_8 (by decide) ?_
  refine lv_iconst (v := 0) hx hb dX7_read_9 (by decide) ?_
  have hPc := hP.sub (ws' := [(a0, .inr (7, [.int 0, .ref m1, .int 0, .int (-1), .int 0, .int 0, .int 0, .ref m2, .int 0, .int 0, .ref m3, .ref m4, .ref m5, .ref m6, .ref m7, .ref m8, .ref m9, .int 0, .ref m10, .ref m11, .ref m12, .int 0, .ref m13, .ref m14, .ref m15, .int 0, .ref m16, .int 0, .int 0]))]) [0] rfl
  have hDc := hD.sub (ws' := [(a0, .inr (7, [.int 0, .ref m1, .int 0, .int (-1), .int 0, .int 0, .int 0, .ref m2, .int 0, .int 0, .ref m3, .ref m4, .ref m5, .ref m6, .ref m7, .ref m8, .ref m9, .int 0, .ref m10, .ref m11, .ref m12, .int 0, .ref m13, .ref m14, .ref m15, .int 0, .ref m16, .int 0, .int 0]))]) [0] (by decide) rfl
  have hKc := hK.sub (tys' := []) [] rfl
  have hFc := va_free (wc := [(a0, .inr (7, [.int 0, .ref m1, .int 0, .int (-1), .int 0, .int 0, .int 0, .ref m2, .int 0, .int 0, .ref m3, .ref m4, .ref m5, .ref m6, .ref m7, .ref m8, .ref m9, .int 0, .ref m10, .ref m11, .ref m12, .int 0, .ref m13, .ref m14, .ref m15, .int 0, .ref m16, .int 0, .int 0]))]) hD hS hA [0] rfl
  refine va_calli (va_runV (As := [.int 1, .int 0]) (rest := []) ⟨hx, hb, hml, hown, hts⟩ (c_X7_found l dC dI H.size a0 m1 m2 m3 m4 m5 m6 m7 m8 m9 m10 m11 m12 m13 m14 m15 m16 1 0) (cwV 2 hts gg_RX7_151 rfl rfl rfl (by decide +kernel) ⟨Nat.le_of_ble_eq_true rfl, Nat.le_of_ble_eq_true rfl⟩) ⟨fun a U g mk q => by obtain ⟨q0, q1, qP, qK, qD⟩ := q; exact ⟨q0, q1, qP, va_K.moved (u := U) (U := U.calling g mk a) (Vm.Alike.refl U.vm) qK, qD⟩, va_recv hK hP (ci := 7) (q0 := 0) rfl rfl, fun U hU hW => ⟨rfl, by rw [hU], by rw [hU]; exact hPc, va_K.moved hW.alike hKc, hDc.weaken (fun _ _ _ _ => trivial)⟩⟩ rfl rfl hl.1 rfl (lv_room (Nat.le_of_ble_eq_true rfl)) dX7_read_10 ⟨Nat.le_of_ble_eq_true rfl, Nat.le_of_ble_eq_true rfl⟩) hS (fun q _ h => hFc q h) hFc (fun r2 u t H1 locs ht hvm hw hB hz1 hk1 hS => ?_)
  obtain ⟨hP1, hK1, hD1⟩ := hB
  rw [ht] at hP1
  have hK1 := va_K.moved hvm.symm hK1
  obtain ⟨hP, hD⟩ := va_join (wr := []) (w1 := []) hP hD [0] [] rfl rfl (by decide) (by decide) hk1 hFc hP1 hD1
  have hK := (hK.sub (tys' := []) [] rfl).app hK1
  generalize H1 = H at hP hS ⊢
  have hP : va_P (dC, dI) vwCl [] H := hP
  have hD : va_D A [] := hD
  have hK : va_K (dC, dI) vwCl [] s := hK
  have hw : r2 = 1 := hw
  subst hw
  have hP9 := hP.sub (ws' := []) [] rfl
  have hD9 := hD.sub (ws' := []) [] (by decide) rfl
  have hK9 := hK.sub (tys' := []) [] rfl
  exact W.iret (v := 1) hx hb hr (fun t ht hW => ⟨⟨1, (), rfl, rfl, by rw [ht]; exact hP9, va_K.moved hW.alike hK9, hD9⟩, hS.F ht⟩) hS.2.2 dX7_read_13
