set_option maxHeartbeats 4000000 in
set_option maxRecDepth 100000 in
theorem c_X6_group (l : Launch) (dC : Nat → ClassId) (dI : Nat → Nat → Nat) (sz : Nat) (a0 : Nat) (a1 : Nat) (a2 : Nat) (a3 : Nat) (a4 : Nat) (a5 : Nat) (k0 : Int32) (k1 : Int32) : Met l yX6_group pwX6_group ({ frames := 0, cells := 0, slots := 0, locals := 0 } : Room) (va_Pc [.ref a0, .int k0, .int k1] (fun U => U.heap.size = sz ∧ va_P (dC, dI) vwCl [(a0, .inr (6, [.ref a1, .ref a2, .ref a3, .ref a4, .ref a5, .int (-1), .int 0]))] U.heap ∧ va_K (dC, dI) vwCl [] U ∧ va_D (fun _ => True) [(a0, .inr (6, [.ref a1, .ref a2, .ref a3, .ref a4, .ref a5, .int (-1), .int 0]))])) (va_Qi (fun (r : Int32) (_ : Unit) => r = (-4)) (fun (_ : Unit) (t : State) => va_P (dC, dI) vwCl [] t.heap ∧ va_K (dC, dI) vwCl [] t ∧ va_D (va_A [(a0, .inr (6, [.ref a1, .ref a2, .ref a3, .ref a4, .ref a5, .int (-1), .int 0]))] sz) []) (va_A [(a0, .inr (6, [.ref a1, .ref a2, .ref a3, .ref a4, .ref a5, .int (-1), .int 0]))] sz)) 0 0 (va_A [(a0, .inr (6, [.ref a1, .ref a2, .ref a3, .ref a4, .ref a5, .int (-1), .int 0]))] sz) := by
  refine Met.ofW (cc := cX6_group) (maxL := 3) (ret := (some .int)) (by decide) rfl ?_
  intro p e s m args below meth c s₁ B hml hv
  obtain ⟨rfl, hsz, hP, hK, hD0⟩ := hv
  have hx := B.exec
  have hb := B.bytes
  have hr := B.returns
  have hts0 := atoms_spec (ws := pwX6_group) B.pre
  have hts := fun w (h : w ∈ pwAll) => hts0 w (List.mem_cons_of_mem _ h)
  have hown : s.vm.findClass RX6 = some m.cls := findClass_of_methodNamed B.named
  have hlocks := B.notSynchronized
  subst hsz
  have hD := hD0.self (sz := s.heap.size)
  generalize hAe : va_A [(a0, .inr (6, [.ref a1, .ref a2, .ref a3, .ref a4, .ref a5, .int (-1), .int 0]))] s.heap.size = A at hD ⊢
  have hA : ∀ q : Nat, s.heap.size ≤ q → A q := fun q h => by rw [← hAe]; exact Or.inr h
  have hS : va_S A s.heap s.heap [] := va_S.rf
  have hP : va_P (dC, dI) vwCl [(a0, .inr (6, [.ref a1, .ref a2, .ref a3, .ref a4, .ref a5, .int (-1), .int 0]))] s.heap := hP
  have hl := lv_entry ([.ref a0, .int k0, .int k1]) (n := 3) (Nat.le_of_ble_eq_true rfl)
  rw [lg_entry_eq]
  generalize (lg_sl ([.ref a0, .int k0, .int k1]) ++ List.replicate (3 - (lg_sl ([.ref a0, .int k0, .int k1])).length) Slot.unset).toArray = ls at hl ⊢
  have hl : lv_has ls 3 [(0, .ref a0), (1, .int k0), (2, .int k1)] := hl
  refine lv_aload_n hx hb dX6_group_0 rfl (lv_at hl 0 rfl) ?_
  refine va_get (D := (dC, dI)) (ci := 6) (v := .int 0) (C := RX6) (T := TX6) (N := 7) hx hb hts inAll_6 hown hK hP 0 rfl rfl 6 (by decide) (hts (.fieldLink RX6 54 "LoopEnvelopes" "taken" "Z") k_90) (fun _ h9 => h9) rfl dX6_group_1 ?_
  refine lv_if_ne (tgt := 10) hx hb dX6_group_4 (by decide) (fun c_4 => absurd (rfl) c_4) (fun c_4 => ?_)
  refine lv_bipush (v := (-4)) hx hb dX6_group_7 (by decide) ?_
  have hP9 := hP.sub (ws' := []) [] rfl
  have hD9 := hD.sub (ws' := []) [] (by decide) rfl
  have hK9 := hK.sub (tys' := []) [] rfl
  exact W.iret (v := (-4)) hx hb hr (fun t ht hW => ⟨⟨(-4), (), rfl, rfl, by rw [ht]; exact hP9, va_K.moved hW.alike hK9, hD9⟩, hS.F ht⟩) hS.2.2 dX6_group_9

set_option maxHeartbeats 4000000 in
set_option maxRecDepth 100000 in
theorem c_X6_setOf (l : Launch) (dC : Nat → ClassId) (dI : Nat → Nat → Nat) (sz : Nat) (a0 : Nat) (a1 : Nat) (a2 : Nat) (a3 : Nat) (a4 : Nat) (a5 : Nat) (k0 : Int32) (k1 : Int32) : Met l yX6_setOf pwX6_setOf ({ frames := 0, cells := 0, slots := 0, locals := 0 } : Room) (va_Pc [.ref a0, .int k0, .int k1] (fun U => U.heap.size = sz ∧ va_P (dC, dI) vwCl [(a0, .inr (6, [.ref a1, .ref a2, .ref a3, .ref a4, .ref a5, .int (-1), .int 0]))] U.heap ∧ va_K (dC, dI) vwCl [] U ∧ va_D (fun _ => True) [(a0, .inr (6, [.ref a1, .ref a2, .ref a3, .ref a4, .ref a5, .int (-1), .int 0]))])) (va_Qi (fun (r : Int32) (_ : Unit) => r = (-4)) (fun (_ : Unit) (t : State) => va_P (dC, dI) vwCl [] t.heap ∧ va_K (dC, dI) vwCl [] t ∧ va_D (va_A [(a0, .inr (6, [.ref a1, .ref a2, .ref a3, .ref a4, .ref a5, .int (-1), .int 0]))] sz) []) (va_A [(a0, .inr (6, [.ref a1, .ref a2, .ref a3, .ref a4, .ref a5, .int (-1), .int 0]))] sz)) 0 0 (va_A [(a0, .inr (6, [.ref a1, .ref a2, .ref a3, .ref a4, .ref a5, .int (-1), .int 0]))] sz) := by
  refine Met.ofW (cc := cX6_setOf) (maxL := 3) (ret := (some .int)) (by decide) rfl ?_
  intro p e s m args below meth c s₁ B hml hv
  obtain ⟨rfl, hsz, hP, hK, hD0⟩ := hv
  have hx := B.exec
  have hb := B.bytes
  have hr := B.returns
  have hts0 := atoms_spec (ws := pwX6_setOf) B.pre
  have hts := fun w (h : w ∈ pwAll) => hts0 w (List.mem_cons_of_mem _ h)
  have hown : s.vm.findClass RX6 = some m.cls := findClass_of_methodNamed B.named
  have hlocks := B.notSynchronized
  subst hsz
  have hD := hD0.self (sz := s.heap.size)
  generalize hAe : va_A [(a0, .inr (6, [.ref a1, .ref a2, .ref a3, .ref a4, .ref a5, .int (-1), .int 0]))] s.heap.size = A at hD ⊢
  have hA : ∀ q : Nat, s.heap.size ≤ q → A q := fun q h => by rw [← hAe]; exact Or.inr h
  have hS : va_S A s.heap s.heap [] := va_S.rf
  have hP : va_P (dC, dI) vwCl [(a0, .inr (6, [.ref a1, .ref a2, .ref a3, .ref a4, .ref a5, .int (-1), .int 0]))] s.heap := hP
  have hl := lv_entry ([.ref a0, .int k0, .int k1]) (n := 3) (Nat.le_of_ble_eq_true rfl)
  rw [lg_entry_eq]
  generalize (lg_sl ([.ref a0, .int k0, .int k1]) ++ List.replicate (3 - (lg_sl ([.ref a0, .int k0, .int k1])).length) Slot.unset).toArray = ls at hl ⊢
  have hl : lv_has ls 3 [(0, .ref a0), (1, .int k0), (2, .int k1)] := hl
  refine lv_aload_n hx hb dX6_setOf_0 rfl (lv_at hl 0 rfl) ?_
  refine va_get (D := (dC, dI)) (ci := 6) (v := .int 0) (C := RX6) (T := TX6) (N := 7) hx hb hts inAll_6 hown hK hP 0 rfl rfl 6 (by decide) (hts (.fieldLink RX6 54 "LoopEnvelopes" "taken" "Z") k_90) (fun _ h9 => h9) rfl dX6_setOf_1 ?_
  refine lv_if_ne (tgt := 10) hx hb dX6_setOf_4 (by decide) (fun c_4 => absurd (rfl) c_4) (fun c_4 => ?_)
  refine lv_bipush (v := (-4)) hx hb dX6_setOf_7 (by decide) ?_
  have hP9 := hP.sub (ws' := []) [] rfl
  have hD9 := hD.sub (ws' := []) [] (by decide) rfl
  have hK9 := hK.sub (tys' := []) [] rfl
  exact W.iret (v := (-4)) hx hb hr (fun t ht hW => ⟨⟨(-4), (), rfl, rfl, by rw [ht]; exact hP9, va_K.moved hW.alike hK9, hD9⟩, hS.F ht⟩) hS.2.2 dX6_setOf_9

set_option maxHeartbeats 4000000 in
set_option maxRecDepth 100000 in
theorem c_X6_fault (l : Launch) (dC : Nat → ClassId) (dI : Nat → Nat → Nat) (sz : Nat) (a0 : Nat) (a1 : Nat) (a2 : Nat) (a3 : Nat) (a4 : Nat) (a5 : Nat) (k0 : Int32) (k1 : Int32) (k2 : Int32) : Met l yX6_fault pwX6_fault ({ frames := 0, cells := 0, slots := 0, locals := 0 } : Room) (va_Pc [.ref a0, .int k0, .int k1, .int k2] (fun U => U.heap.size = sz ∧ va_P (dC, dI) vwCl [(a0, .inr (6, [.ref a1, .ref a2, .ref a3, .ref a4, .ref a5, .int (-1), .int 0]))] U.heap ∧ va_K (dC, dI) vwCl [] U ∧ va_D (fun _ => True) [(a0, .inr (6, [.ref a1, .ref a2, .ref a3, .ref a4, .ref a5, .int (-1), .int 0]))])) (va_Qi (fun (r : Int32) (_ : Unit) => r = (-4)) (fun (_ : Unit) (t : State) => va_P (dC, dI) vwCl [] t.heap ∧ va_K (dC, dI) vwCl [] t ∧ va_D (va_A [(a0, .inr (6, [.ref a1, .ref a2, .ref a3, .ref a4, .ref a5, .int (-1), .int 0]))] sz) []) (va_A [(a0, .inr (6, [.ref a1, .ref a2, .ref a3, .ref a4, .ref a5, .int (-1), .int 0]))] sz)) 0 0 (va_A [(a0, .inr (6, [.ref a1, .ref a2, .ref a3, .ref a4, .ref a5, .int (-1), .int 0]))] sz) := by
  refine Met.ofW (cc := cX6_fault) (maxL := 5) (ret := (some .int)) (by decide) rfl ?_
  intro p e s m args below meth c s₁ B hml hv
  obtain ⟨rfl, hsz, hP, hK, hD0⟩ := hv
  have hx := B.exec
  have hb := B.bytes
  have hr := B.returns
  have hts0 := atoms_spec (ws := pwX6_fault) B.pre
  have hts := fun w (h : w ∈ pwAll) => hts0 w (List.mem_cons_of_mem _ h)
  have hown : s.vm.findClass RX6 = some m.cls := findClass_of_methodNamed B.named
  have hlocks := B.notSynchronized
  subst hsz
  have hD := hD0.self (sz := s.heap.size)
  generalize hAe : va_A [(a0, .inr (6, [.ref a1, .ref a2, .ref a3, .ref a4, .ref a5, .int (-1), .int 0]))] s.heap.size = A at hD ⊢
  have hA : ∀ q : Nat, s.heap.size ≤ q → A q := fun q h => by rw [← hAe]; exact Or.inr h
  have hS : va_S A s.heap s.heap [] := va_S.rf
  have hP : va_P (dC, dI) vwCl [(a0, .inr (6, [.ref a1, .ref a2, .ref a3, .ref a4, .ref a5, .int (-1), .int 0]))] s.heap := hP
  have hl := lv_entry ([.ref a0, .int k0, .int k1, .int k2]) (n := 5) (Nat.le_of_ble_eq_true rfl)
  rw [lg_entry_eq]
  generalize (lg_sl ([.ref a0, .int k0, .int k1, .int k2]) ++ List.replicate (5 - (lg_sl ([.ref a0, .int k0, .int k1, .int k2])).length) Slot.unset).toArray = ls at hl ⊢
  have hl : lv_has ls 5 [(0, .ref a0), (1, .int k0), (2, .int k1), (3, .int k2)] := hl
  refine lv_aload_n hx hb dX6_fault_0 rfl (lv_at hl 0 rfl) ?_
  refine va_get (D := (dC, dI)) (ci := 6) (v := .int 0) (C := RX6) (T := TX6) (N := 7) hx hb hts inAll_6 hown hK hP 0 rfl rfl 6 (by decide) (hts (.fieldLink RX6 54 "LoopEnvelopes" "taken" "Z") k_90) (fun _ h9 => h9) rfl dX6_fault_1 ?_
  refine lv_if_ne (tgt := 10) hx hb dX6_fault_4 (by decide) (fun c_4 => absurd (rfl) c_4) (fun c_4 => ?_)
  refine lv_bipush (v := (-4)) hx hb dX6_fault_7 (by decide) ?_
  have hP9 := hP.sub (ws' := []) [] rfl
  have hD9 := hD.sub (ws' := []) [] (by decide) rfl
  have hK9 := hK.sub (tys' := []) [] rfl
  exact W.iret (v := (-4)) hx hb hr (fun t ht hW => ⟨⟨(-4), (), rfl, rfl, by rw [ht]; exact hP9, va_K.moved hW.alike hK9, hD9⟩, hS.F ht⟩) hS.2.2 dX6_fault_9

set_option maxHeartbeats 4000000 in
set_option maxRecDepth 100000 in
theorem c_X6_level (l : Launch) (dC : Nat → ClassId) (dI : Nat → Nat → Nat) (sz : Nat) (a0 : Nat) (a1 : Nat) (a2 : Nat) (a3 : Nat) (a4 : Nat) (a5 : Nat) (k0 : Int32) (k1 : Int32) (k2 : Int32) : Met l yX6_level pwX6_level ({ frames := 0, cells := 0, slots := 0, locals := 0 } : Room) (va_Pc [.ref a0, .int k0, .int k1, .int k2] (fun U => U.heap.size = sz ∧ va_P (dC, dI) vwCl [(a0, .inr (6, [.ref a1, .ref a2, .ref a3, .ref a4, .ref a5, .int (-1), .int 0]))] U.heap ∧ va_K (dC, dI) vwCl [] U ∧ va_D (fun _ => True) [(a0, .inr (6, [.ref a1, .ref a2, .ref a3, .ref a4, .ref a5, .int (-1), .int 0]))])) (va_Qi (fun (r : Int32) (_ : Unit) => r = (-4)) (fun (_ : Unit) (t : State) => va_P (dC, dI) vwCl [] t.heap ∧ va_K (dC, dI) vwCl [] t ∧ va_D (va_A [(a0, .inr (6, [.ref a1, .ref a2, .ref a3, .ref a4, .ref a5, .int (-1), .int 0]))] sz) []) (va_A [(a0, .inr (6, [.ref a1, .ref a2, .ref a3, .ref a4, .ref a5, .int (-1), .int 0]))] sz)) 0 0 (va_A [(a0, .inr (6, [.ref a1, .ref a2, .ref a3, .ref a4, .ref a5, .int (-1), .int 0]))] sz) := by
  refine Met.ofW (cc := cX6_level) (maxL := 5) (ret := (some .int)) (by decide) rfl ?_
  intro p e s m args below meth c s₁ B hml hv
  obtain ⟨rfl, hsz, hP, hK, hD0⟩ := hv
  have hx := B.exec
  have hb := B.bytes
  have hr := B.returns
  have hts0 := atoms_spec (ws := pwX6_level) B.pre
  have hts := fun w (h : w ∈ pwAll) => hts0 w (List.mem_cons_of_mem _ h)
  have hown : s.vm.findClass RX6 = some m.cls := findClass_of_methodNamed B.named
  have hlocks := B.notSynchronized
  subst hsz
  have hD := hD0.self (sz := s.heap.size)
  generalize hAe : va_A [(a0, .inr (6, [.ref a1, .ref a2, .ref a3, .ref a4, .ref a5, .int (-1), .int 0]))] s.heap.size = A at hD ⊢
  have hA : ∀ q : Nat, s.heap.size ≤ q → A q := fun q h => by rw [← hAe]; exact Or.inr h
  have hS : va_S A s.heap s.heap [] := va_S.rf
  have hP : va_P (dC, dI) vwCl [(a0, .inr (6, [.ref a1, .ref a2, .ref a3, .ref a4, .ref a5, .int (-1), .int 0]))] s.heap := hP
  have hl := lv_entry ([.ref a0, .int k0, .int k1, .int k2]) (n := 5) (Nat.le_of_ble_eq_true rfl)
  rw [lg_entry_eq]
  generalize (lg_sl ([.ref a0, .int k0, .int k1, .int k2]) ++ List.replicate (5 - (lg_sl ([.ref a0, .int k0, .int k1, .int k2])).length) Slot.unset).toArray = ls at hl ⊢
  have hl : lv_has ls 5 [(0, .ref a0), (1, .int k0), (2, .int k1), (3, .int k2)] := hl
  refine lv_aload_n hx hb dX6_level_0 rfl (lv_at hl 0 rfl) ?_
  refine va_get (D := (dC, dI)) (ci := 6) (v := .int 0) (C := RX6) (T := TX6) (N := 7) hx hb hts inAll_6 hown hK hP 0 rfl rfl 6 (by decide) (hts (.fieldLink RX6 54 "LoopEnvelopes" "taken" "Z") k_90) (fun _ h9 => h9) rfl dX6_level_1 ?_
  refine lv_if_ne (tgt := 10) hx hb dX6_level_4 (by decide) (fun c_4 => absurd (rfl) c_4) (fun c_4 => ?_)
  refine lv_bipush (v := (-4)) hx hb dX6_level_7 (by decide) ?_
  have hP9 := hP.sub (ws' := []) [] rfl
  have hD9 := hD.sub (ws' := []) [] (by decide) rfl
  have hK9 := hK.sub (tys' := []) [] rfl
  exact W.iret (v := (-4)) hx hb hr (fun t ht hW => ⟨⟨(-4), (), rfl, rfl, by rw [ht]; exact hP9, va_K.moved hW.alike hK9, hD9⟩, hS.F ht⟩) hS.2.2 dX6_level_9

set_option maxHeartbeats 4000000 in
set_option maxRecDepth 100000 in
theorem c_X6_claim (l : Launch) (dC : Nat → ClassId) (dI : Nat → Nat → Nat) (sz : Nat) (a0 : Nat) (a1 : Nat) (a2 : Nat) (a3 : Nat) (a4 : Nat) (a5 : Nat) (k0 : Int32) (k1 : Int32) (k2 : Int32) : Met l yX6_claim pwX6_claim ({ frames := 0, cells := 0, slots := 0, locals := 0 } : Room) (va_Pc [.ref a0, .int k0, .int k1, .int k2] (fun U => U.heap.size = sz ∧ va_P (dC, dI) vwCl [(a0, .inr (6, [.ref a1, .ref a2, .ref a3, .ref a4, .ref a5, .int (-1), .int 0]))] U.heap ∧ va_K (dC, dI) vwCl [] U ∧ va_D (fun _ => True) [(a0, .inr (6, [.ref a1, .ref a2, .ref a3, .ref a4, .ref a5, .int (-1), .int 0]))])) (va_Qi (fun (r : Int32) (_ : Unit) => r = (-4)) (fun (_ : Unit) (t : State) => va_P (dC, dI) vwCl [] t.heap ∧ va_K (dC, dI) vwCl [] t ∧ va_D (va_A [(a0, .inr (6, [.ref a1, .ref a2, .ref a3, .ref a4, .ref a5, .int (-1), .int 0]))] sz) []) (va_A [(a0, .inr (6, [.ref a1, .ref a2, .ref a3, .ref a4, .ref a5, .int (-1), .int 0]))] sz)) 0 0 (va_A [(a0, .inr (6, [.ref a1, .ref a2, .ref a3, .ref a4, .ref a5, .int (-1), .int 0]))] sz) := by
  refine Met.ofW (cc := cX6_claim) (maxL := 6) (ret := (some .int)) (by decide) rfl ?_
  intro p e s m args below meth c s₁ B hml hv
  obtain ⟨rfl, hsz, hP, hK, hD0⟩ := hv
  have hx := B.exec
  have hb := B.bytes
  have hr := B.returns
  have hts0 := atoms_spec (ws := pwX6_claim) B.pre
  have hts := fun w (h : w ∈ pwAll) => hts0 w (List.mem_cons_of_mem _ h)
  have hown : s.vm.findClass RX6 = some m.cls := findClass_of_methodNamed B.named
  have hlocks := B.notSynchronized
  subst hsz
  have hD := hD0.self (sz := s.heap.size)
  generalize hAe : va_A [(a0, .inr (6, [.ref a1, .ref a2, .ref a3, .ref a4, .ref a5, .int (-1), .int 0]))] s.heap.size = A at hD ⊢
  have hA : ∀ q : Nat, s.heap.size ≤ q → A q := fun q h => by rw [← hAe]; exact Or.inr h
  have hS : va_S A s.heap s.heap [] := va_S.rf
  have hP : va_P (dC, dI) vwCl [(a0, .inr (6, [.ref a1, .ref a2, .ref a3, .ref a4, .ref a5, .int (-1), .int 0]))] s.heap := hP
  have hl := lv_entry ([.ref a0, .int k0, .int k1, .int k2]) (n := 6) (Nat.le_of_ble_eq_true rfl)
  rw [lg_entry_eq]
  generalize (lg_sl ([.ref a0, .int k0, .int k1, .int k2]) ++ List.replicate (6 - (lg_sl ([.ref a0, .int k0, .int k1, .int k2])).length) Slot.unset).toArray = ls at hl ⊢
  have hl : lv_has ls 6 [(0, .ref a0), (1, .int k0), (2, .int k1), (3, .int k2)] := hl
  refine lv_aload_n hx hb dX6_claim_0 rfl (lv_at hl 0 rfl) ?_
  refine va_get (D := (dC, dI)) (ci := 6) (v := .int 0) (C := RX6) (T := TX6) (N := 7) hx hb hts inAll_6 hown hK hP 0 rfl rfl 6 (by decide) (hts (.fieldLink RX6 54 "LoopEnvelopes" "taken" "Z") k_90) (fun _ h9 => h9) rfl dX6_claim_1 ?_
  refine lv_if_ne (tgt := 10) hx hb dX6_claim_4 (by decide) (fun c_4 => absurd (rfl) c_4) (fun c_4 => ?_)
  refine lv_bipush (v := (-4)) hx hb dX6_claim_7 (by decide) ?_
  have hP9 := hP.sub (ws' := []) [] rfl
  have hD9 := hD.sub (ws' := []) [] (by decide) rfl
  have hK9 := hK.sub (tys' := []) [] rfl
  exact W.iret (v := (-4)) hx hb hr (fun t ht hW => ⟨⟨(-4), (), rfl, rfl, by rw [ht]; exact hP9, va_K.moved hW.alike hK9, hD9⟩, hS.F ht⟩) hS.2.2 dX6_claim_9

set_option maxHeartbeats 4000000 in
set_option maxRecDepth 100000 in
theorem c_X6_size (l : Launch) (dC : Nat → ClassId) (dI : Nat → Nat → Nat) (sz : Nat) (a0 : Nat) (a1 : Nat) (a2 : Nat) (a3 : Nat) (a4 : Nat) (a5 : Nat) (k0 : Int32) (k1 : Int32) : Met l yX6_size pwX6_size ({ frames := 0, cells := 0, slots := 0, locals := 0 } : Room) (va_Pc [.ref a0, .int k0, .int k1] (fun U => U.heap.size = sz ∧ va_P (dC, dI) vwCl [(a0, .inr (6, [.ref a1, .ref a2, .ref a3, .ref a4, .ref a5, .int (-1), .int 0]))] U.heap ∧ va_K (dC, dI) vwCl [] U ∧ va_D (fun _ => True) [(a0, .inr (6, [.ref a1, .ref a2, .ref a3, .ref a4, .ref a5, .int (-1), .int 0]))])) (va_Qi (fun (r : Int32) (_ : Unit) => r = (-4)) (fun (_ : Unit) (t : State) => va_P (dC, dI) vwCl [] t.heap ∧ va_K (dC, dI) vwCl [] t ∧ va_D (va_A [(a0, .inr (6, [.ref a1, .ref a2, .ref a3, .ref a4, .ref a5, .int (-1), .int 0]))] sz) []) (va_A [(a0, .inr (6, [.ref a1, .ref a2, .ref a3, .ref a4, .ref a5, .int (-1), .int 0]))] sz)) 0 0 (va_A [(a0, .inr (6, [.ref a1, .ref a2, .ref a3, .ref a4, .ref a5, .int (-1), .int 0]))] sz) := by
  refine Met.ofW (cc := cX6_size) (maxL := 3) (ret := (some .int)) (by decide) rfl ?_
  intro p e s m args below meth c s₁ B hml hv
  obtain ⟨rfl, hsz, hP, hK, hD0⟩ := hv
  have hx := B.exec
  have hb := B.bytes
  have hr := B.returns
  have hts0 := atoms_spec (ws := pwX6_size) B.pre
  have hts := fun w (h : w ∈ pwAll) => hts0 w (List.mem_cons_of_mem _ h)
  have hown : s.vm.findClass RX6 = some m.cls := findClass_of_methodNamed B.named
  have hlocks := B.notSynchronized
  subst hsz
  have hD := hD0.self (sz := s.heap.size)
  generalize hAe : va_A [(a0, .inr (6, [.ref a1, .ref a2, .ref a3, .ref a4, .ref a5, .int (-1), .int 0]))] s.heap.size = A at hD ⊢
  have hA : ∀ q : Nat, s.heap.size ≤ q → A q := fun q h => by rw [← hAe]; exact Or.inr h
  have hS : va_S A s.heap s.heap [] := va_S.rf
  have hP : va_P (dC, dI) vwCl [(a0, .inr (6, [.ref a1, .ref a2, .ref a3, .ref a4, .ref a5, .int (-1), .int 0]))] s.heap := hP
  have hl := lv_entry ([.ref a0, .int k0, .int k1]) (n := 3) (Nat.le_of_ble_eq_true rfl)
  rw [lg_entry_eq]
  generalize (lg_sl ([.ref a0, .int k0, .int k1]) ++ List.replicate (3 - (lg_sl ([.ref a0, .int k0, .int k1])).length) Slot.unset).toArray = ls at hl ⊢
  have hl : lv_has ls 3 [(0, .ref a0), (1, .int k0), (2, .int k1)] := hl
  refine lv_aload_n hx hb dX6_size_0 rfl (lv_at hl 0 rfl) ?_
  refine va_get (D := (dC, dI)) (ci := 6) (v := .int 0) (C := RX6) (T := TX6) (N := 7) hx hb hts inAll_6 hown hK hP 0 rfl rfl 6 (by decide) (hts (.fieldLink RX6 54 "LoopEnvelopes" "taken" "Z") k_90) (fun _ h9 => h9) rfl dX6_size_1 ?_
  refine lv_if_ne (tgt := 10) hx hb dX6_size_4 (by decide) (fun c_4 => absurd (rfl) c_4) (fun c_4 => ?_)
  refine lv_bipush (v := (-4)) hx hb dX6_size_7 (by decide) ?_
  have hP9 := hP.sub (ws' := []) [] rfl
  have hD9 := hD.sub (ws' := []) [] (by decide) rfl
  have hK9 := hK.sub (tys' := []) [] rfl
  exact W.iret (v := (-4)) hx hb hr (fun t ht hW => ⟨⟨(-4), (), rfl, rfl, by rw [ht]; exact hP9, va_K.moved hW.alike hK9, hD9⟩, hS.F ht⟩) hS.2.2 dX6_size_9

set_option maxHeartbeats 4000000 in
set_option maxRecDepth 100000 in
theorem c_X6_byteOf (l : Launch) (dC : Nat → ClassId) (dI : Nat → Nat → Nat) (sz : Nat) (a0 : Nat) (a1 : Nat) (a2 : Nat) (a3 : Nat) (a4 : Nat) (a5 : Nat) (k0 : Int32) (k1 : Int32) (k2 : Int32) : Met l yX6_byteOf pwX6_byteOf ({ frames := 0, cells := 0, slots := 0, locals := 0 } : Room) (va_Pc [.ref a0, .int k0, .int k1, .int k2] (fun U => U.heap.size = sz ∧ va_P (dC, dI) vwCl [(a0, .inr (6, [.ref a1, .ref a2, .ref a3, .ref a4, .ref a5, .int (-1), .int 0]))] U.heap ∧ va_K (dC, dI) vwCl [] U ∧ va_D (fun _ => True) [(a0, .inr (6, [.ref a1, .ref a2, .ref a3, .ref a4, .ref a5, .int (-1), .int 0]))])) (va_Qi (fun (r : Int32) (_ : Unit) => r = (-4)) (fun (_ : Unit) (t : State) => va_P (dC, dI) vwCl [] t.heap ∧ va_K (dC, dI) vwCl [] t ∧ va_D (va_A [(a0, .inr (6, [.ref a1, .ref a2, .ref a3, .ref a4, .ref a5, .int (-1), .int 0]))] sz) []) (va_A [(a0, .inr (6, [.ref a1, .ref a2, .ref a3, .ref a4, .ref a5, .int (-1), .int 0]))] sz)) 0 0 (va_A [(a0, .inr (6, [.ref a1, .ref a2, .ref a3, .ref a4, .ref a5, .int (-1), .int 0]))] sz) := by
  refine Met.ofW (cc := cX6_byteOf) (maxL := 5) (ret := (some .int)) (by decide) rfl ?_
  intro p e s m args below meth c s₁ B hml hv
  obtain ⟨rfl, hsz, hP, hK, hD0⟩ := hv
  have hx := B.exec
  have hb := B.bytes
  have hr := B.returns
  have hts0 := atoms_spec (ws := pwX6_byteOf) B.pre
  have hts := fun w (h : w ∈ pwAll) => hts0 w (List.mem_cons_of_mem _ h)
  have hown : s.vm.findClass RX6 = some m.cls := findClass_of_methodNamed B.named
  have hlocks := B.notSynchronized
  subst hsz
  have hD := hD0.self (sz := s.heap.size)
  generalize hAe : va_A [(a0, .inr (6, [.ref a1, .ref a2, .ref a3, .ref a4, .ref a5, .int (-1), .int 0]))] s.heap.size = A at hD ⊢
  have hA : ∀ q : Nat, s.heap.size ≤ q → A q := fun q h => by rw [← hAe]; exact Or.inr h
  have hS : va_S A s.heap s.heap [] := va_S.rf
  have hP : va_P (dC, dI) vwCl [(a0, .inr (6, [.ref a1, .ref a2, .ref a3, .ref a4, .ref a5, .int (-1), .int 0]))] s.heap := hP
  have hl := lv_entry ([.ref a0, .int k0, .int k1, .int k2]) (n := 5) (Nat.le_of_ble_eq_true rfl)
  rw [lg_entry_eq]
  generalize (lg_sl ([.ref a0, .int k0, .int k1, .int k2]) ++ List.replicate (5 - (lg_sl ([.ref a0, .int k0, .int k1, .int k2])).length) Slot.unset).toArray = ls at hl ⊢
  have hl : lv_has ls 5 [(0, .ref a0), (1, .int k0), (2, .int k1), (3, .int k2)] := hl
  refine lv_aload_n hx hb dX6_byteOf_0 rfl (lv_at hl 0 rfl) ?_
  refine va_get (D := (dC, dI)) (ci := 6) (v := .int 0) (C := RX6) (T := TX6) (N := 7) hx hb hts inAll_6 hown hK hP 0 rfl rfl 6 (by decide) (hts (.fieldLink RX6 54 "LoopEnvelopes" "taken" "Z") k_90) (fun _ h9 => h9) rfl dX6_byteOf_1 ?_
  refine lv_if_ne (tgt := 10) hx hb dX6_byteOf_4 (by decide) (fun c_4 => absurd (rfl) c_4) (fun c_4 => ?_)
  refine lv_bipush (v := (-4)) hx hb dX6_byteOf_7 (by decide) ?_
  have hP9 := hP.sub (ws' := []) [] rfl
  have hD9 := hD.sub (ws' := []) [] (by decide) rfl
  have hK9 := hK.sub (tys' := []) [] rfl
  exact W.iret (v := (-4)) hx hb hr (fun t ht hW => ⟨⟨(-4), (), rfl, rfl, by rw [ht]; exact hP9, va_K.moved hW.alike hK9, hD9⟩, hS.F ht⟩) hS.2.2 dX6_byteOf_9

set_option maxHeartbeats 4000000 in
set_option maxRecDepth 100000 in
theorem c_X6_answer (l : Launch) (dC : Nat → ClassId) (dI : Nat → Nat → Nat) (sz : Nat) (a0 : Nat) (a1 : Nat) (a2 : Nat) (a3 : Nat) (a4 : Nat) (a5 : Nat) : Met l yX6_answer pwX6_answer ({ frames := 0, cells := 0, slots := 0, locals := 0 } : Room) (va_Pc [.ref a0] (fun U => U.heap.size = sz ∧ va_P (dC, dI) vwCl [(a0, .inr (6, [.ref a1, .ref a2, .ref a3, .ref a4, .ref a5, .int (-1), .int 0]))] U.heap ∧ va_K (dC, dI) vwCl [] U ∧ va_D (fun _ => True) [(a0, .inr (6, [.ref a1, .ref a2, .ref a3, .ref a4, .ref a5, .int (-1), .int 0]))])) (va_Qi (fun (r : Int32) (_ : Unit) => r = (-4)) (fun (_ : Unit) (t : State) => va_P (dC, dI) vwCl [] t.heap ∧ va_K (dC, dI) vwCl [] t ∧ va_D (va_A [(a0, .inr (6, [.ref a1, .ref a2, .ref a3, .ref a4, .ref a5, .int (-1), .int 0]))] sz) []) (va_A [(a0, .inr (6, [.ref a1, .ref a2, .ref a3, .ref a4, .ref a5, .int (-1), .int 0]))] sz)) 0 0 (va_A [(a0, .inr (6, [.ref a1, .ref a2, .ref a3, .ref a4, .ref a5, .int (-1), .int 0]))] sz) := by
  refine Met.ofW (cc := cX6_answer) (maxL := 2) (ret := (some .int)) (by decide) rfl ?_
  intro p e s m args below meth c s₁ B hml hv
  obtain ⟨rfl, hsz, hP, hK, hD0⟩ := hv
  have hx := B.exec
  have hb := B.bytes
  have hr := B.returns
  have hts0 := atoms_spec (ws := pwX6_answer) B.pre
  have hts := fun w (h : w ∈ pwAll) => hts0 w (List.mem_cons_of_mem _ h)
  have hown : s.vm.findClass RX6 = some m.cls := findClass_of_methodNamed B.named
  have hlocks := B.notSynchronized
  subst hsz
  have hD := hD0.self (sz := s.heap.size)
  generalize hAe : va_A [(a0, .inr (6, [.ref a1, .ref a2, .ref a3, .ref a4, .ref a5, .int (-1), .int 0]))] s.heap.size = A at hD ⊢
  have hA : ∀ q : Nat, s.heap.size ≤ q → A q := fun q h => by rw [← hAe]; exact Or.inr h
  have hS : va_S A s.heap s.heap [] := va_S.rf
  have hP : va_P (dC, dI) vwCl [(a0, .inr (6, [.ref a1, .ref a2, .ref a3, .ref a4, .ref a5, .int (-1), .int 0]))] s.heap := hP
  have hl := lv_entry ([.ref a0]) (n := 2) (Nat.le_of_ble_eq_true rfl)
  rw [lg_entry_eq]
  generalize (lg_sl ([.ref a0]) ++ List.replicate (2 - (lg_sl ([.ref a0])).length) Slot.unset).toArray = ls at hl ⊢
  have hl : lv_has ls 2 [(0, .ref a0)] := hl
  refine lv_aload_n hx hb dX6_answer_0 rfl (lv_at hl 0 rfl) ?_
  refine va_get (D := (dC, dI)) (ci := 6) (v := .int 0) (C := RX6) (T := TX6) (N := 7) hx hb hts inAll_6 hown hK hP 0 rfl rfl 6 (by decide) (hts (.fieldLink RX6 54 "LoopEnvelopes" "taken" "Z") k_90) (fun _ h9 => h9) rfl dX6_answer_1 ?_
  refine lv_if_ne (tgt := 10) hx hb dX6_answer_4 (by decide) (fun c_4 => absurd (rfl) c_4) (fun c_4 => ?_)
  refine lv_bipush (v := (-4)) hx hb dX6_answer_7 (by decide) ?_
  have hP9 := hP.sub (ws' := []) [] rfl
  have hD9 := hD.sub (ws' := []) [] (by decide) rfl
  have hK9 := hK.sub (tys' := []) [] rfl
  exact W.iret (v := (-4)) hx hb hr (fun t ht hW => ⟨⟨(-4), (), rfl, rfl, by rw [ht]; exact hP9, va_K.moved hW.alike hK9, hD9⟩, hS.F ht⟩) hS.2.2 dX6_answer_9

set_option maxHeartbeats 4000000 in
set_option maxRecDepth 100000 in
theorem c_X6_where (l : Launch) (dC : Nat → ClassId) (dI : Nat → Nat → Nat) (sz : Nat) (a0 : Nat) (a1 : Nat) (a2 : Nat) (a3 : Nat) (a4 : Nat) (a5 : Nat) : Met l yX6_where pwX6_where ({ frames := 0, cells := 0, slots := 0, locals := 0 } : Room) (va_Pc [.ref a0] (fun U => U.heap.size = sz ∧ va_P (dC, dI) vwCl [(a0, .inr (6, [.ref a1, .ref a2, .ref a3, .ref a4, .ref a5, .int (-1), .int 0]))] U.heap ∧ va_K (dC, dI) vwCl [] U ∧ va_D (fun _ => True) [(a0, .inr (6, [.ref a1, .ref a2, .ref a3, .ref a4, .ref a5, .int (-1), .int 0]))])) (va_Qi (fun (r : Int32) (_ : Unit) => r = (-1)) (fun (_ : Unit) (t : State) => va_P (dC, dI) vwCl [] t.heap ∧ va_K (dC, dI) vwCl [] t ∧ va_D (va_A [(a0, .inr (6, [.ref a1, .ref a2, .ref a3, .ref a4, .ref a5, .int (-1), .int 0]))] sz) []) (va_A [(a0, .inr (6, [.ref a1, .ref a2, .ref a3, .ref a4, .ref a5, .int (-1), .int 0]))] sz)) 0 0 (va_A [(a0, .inr (6, [.ref a1, .ref a2, .ref a3, .ref a4, .ref a5, .int (-1), .int 0]))] sz) := by
  refine Met.ofW (cc := cX6_where) (maxL := 1) (ret := (some .int)) (by decide) rfl ?_
  intro p e s m args below meth c s₁ B hml hv
  obtain ⟨rfl, hsz, hP, hK, hD0⟩ := hv
  have hx := B.exec
  have hb := B.bytes
  have hr := B.returns
  have hts0 := atoms_spec (ws := pwX6_where) B.pre
  have hts := fun w (h : w ∈ pwAll) => hts0 w (List.mem_cons_of_mem _ h)
  have hown : s.vm.findClass RX6 = some m.cls := findClass_of_methodNamed B.named
  have hlocks := B.notSynchronized
  subst hsz
  have hD := hD0.self (sz := s.heap.size)
  generalize hAe : va_A [(a0, .inr (6, [.ref a1, .ref a2, .ref a3, .ref a4, .ref a5, .int (-1), .int 0]))] s.heap.size = A at hD ⊢
  have hA : ∀ q : Nat, s.heap.size ≤ q → A q := fun q h => by rw [← hAe]; exact Or.inr h
  have hS : va_S A s.heap s.heap [] := va_S.rf
  have hP : va_P (dC, dI) vwCl [(a0, .inr (6, [.ref a1, .ref a2, .ref a3, .ref a4, .ref a5, .int (-1), .int 0]))] s.heap := hP
  have hl := lv_entry ([.ref a0]) (n := 1) (Nat.le_of_ble_eq_true rfl)
  rw [lg_entry_eq]
  generalize (lg_sl ([.ref a0]) ++ List.replicate (1 - (lg_sl ([.ref a0])).length) Slot.unset).toArray = ls at hl ⊢
  have hl : lv_has ls 1 [(0, .ref a0)] := hl
  refine lv_aload_n hx hb dX6_where_0 rfl (lv_at hl 0 rfl) ?_
  refine va_get (D := (dC, dI)) (ci := 6) (v := .int (-1)) (C := RX6) (T := TX6) (N := 7) hx hb hts inAll_6 hown hK hP 0 rfl rfl 5 (by decide) (hts (.fieldLink RX6 50 "LoopEnvelopes" "place" "I") k_89) (fun _ h9 => h9) rfl dX6_where_1 ?_
  have hP9 := hP.sub (ws' := []) [] rfl
  have hD9 := hD.sub (ws' := []) [] (by decide) rfl
  have hK9 := hK.sub (tys' := []) [] rfl
  exact W.iret (v := (-1)) hx hb hr (fun t ht hW => ⟨⟨(-1), (), rfl, rfl, by rw [ht]; exact hP9, va_K.moved hW.alike hK9, hD9⟩, hS.F ht⟩) hS.2.2 dX6_where_4

set_option maxHeartbeats 4000000 in
set_option maxRecDepth 100000 in
theorem c_X6_set (l : Launch) (dC : Nat → ClassId) (dI : Nat → Nat → Nat) (sz : Nat) (a0 : Nat) (a1 : Nat) (a2 : Nat) (a3 : Nat) (a4 : Nat) (a5 : Nat) (ya : Nat) (k0 : Int32) (k1 : Int32) : Met l yX6_set pwX6_set ({ frames := 1, cells := 0, slots := 0, locals := 20 } : Room) (va_Pc [.ref a0, .int k0, .int k1] (fun U => U.heap.size = sz ∧ va_P (dC, dI) vwCl [(a0, .inr (6, [.ref a1, .ref a2, .ref a3, .ref a4, .ref a5, .int (-1), .int 0])), (a1, .inr (0, [.ref ya, .int 0]))] U.heap ∧ va_K (dC, dI) vwCl [] U ∧ va_D (fun _ => True) [(a0, .inr (6, [.ref a1, .ref a2, .ref a3, .ref a4, .ref a5, .int (-1), .int 0])), (a1, .inr (0, [.ref ya, .int 0]))])) (va_Qi (fun (r : Int32) (_ : Unit) => r = (-2)) (fun (_ : Unit) (t : State) => va_P (dC, dI) vwCl [] t.heap ∧ va_K (dC, dI) vwCl [] t ∧ va_D (va_A [(a0, .inr (6, [.ref a1, .ref a2, .ref a3, .ref a4, .ref a5, .int (-1), .int 0])), (a1, .inr (0, [.ref ya, .int 0]))] sz) []) (va_A [(a0, .inr (6, [.ref a1, .ref a2, .ref a3, .ref a4, .ref a5, .int (-1), .int 0])), (a1, .inr (0, [.ref ya, .int 0]))] sz)) 0 0 (va_A [(a0, .inr (6, [.ref a1, .ref a2, .ref a3, .ref a4, .ref a5, .int (-1), .int 0])), (a1, .inr (0, [.ref ya, .int 0]))] sz) := by
  refine Met.ofW (cc := cX6_set) (maxL := 4) (ret := (some .int)) (by decide) rfl ?_
  intro p e s m args below meth c s₁ B hml hv
  obtain ⟨rfl, hsz, hP, hK, hD0⟩ := hv
  have hx := B.exec
  have hb := B.bytes
  have hr := B.returns
  have hts0 := atoms_spec (ws := pwX6_set) B.pre
  have hts := fun w (h : w ∈ pwAll) => hts0 w (List.mem_cons_of_mem _ h)
  have hown : s.vm.findClass RX6 = some m.cls := findClass_of_methodNamed B.named
  have hlocks := B.notSynchronized
  subst hsz
  have hD := hD0.self (sz := s.heap.size)
  generalize hAe : va_A [(a0, .inr (6, [.ref a1, .ref a2, .ref a3, .ref a4, .ref a5, .int (-1), .int 0])), (a1, .inr (0, [.ref ya, .int 0]))] s.heap.size = A at hD ⊢
  have hA : ∀ q : Nat, s.heap.size ≤ q → A q := fun q h => by rw [← hAe]; exact Or.inr h
  have hS : va_S A s.heap s.heap [] := va_S.rf
  have hP : va_P (dC, dI) vwCl [(a0, .inr (6, [.ref a1, .ref a2, .ref a3, .ref a4, .ref a5, .int (-1), .int 0])), (a1, .inr (0, [.ref ya, .int 0]))] s.heap := hP
  have hl := lv_entry ([.ref a0, .int k0, .int k1]) (n := 4) (Nat.le_of_ble_eq_true rfl)
  rw [lg_entry_eq]
  generalize (lg_sl ([.ref a0, .int k0, .int k1]) ++ List.replicate (4 - (lg_sl ([.ref a0, .int k0, .int k1])).length) Slot.unset).toArray = ls at hl ⊢
  have hl : lv_has ls 4 [(0, .ref a0), (1, .int k0), (2, .int k1)] := hl
  refine lv_iload_n hx hb dX6_set_0 rfl (lv_at hl 1 rfl) ?_
  refine lv_if_lt (tgt := 15) hx hb dX6_set_1 (by decide) (fun c_1 => ?_) (fun c_1 => ?_)
  · skip
    refine lv_bipush (v := (-2)) hx hb dX6_set_15 (by decide) ?_
    have hP9 := hP.sub (ws' := []) [] rfl
    have hD9 := hD.sub (ws' := []) [] (by decide) rfl
    have hK9 := hK.sub (tys' := []) [] rfl
    exact W.iret (v := (-2)) hx hb hr (fun t ht hW => ⟨⟨(-2), (), rfl, rfl, by rw [ht]; exact hP9, va_K.moved hW.alike hK9, hD9⟩, hS.F ht⟩) hS.2.2 dX6_set_17
  · skip
    refine lv_iload_n hx hb dX6_set_4 rfl (lv_at hl 1 rfl) ?_
    refine lv_aload_n hx hb dX6_set_5 rfl (lv_at hl 0 rfl) ?_
    refine va_get (D := (dC, dI)) (ci := 6) (v := .ref a1) (C := RX6) (T := TX6) (N := 7) hx hb hts inAll_6 hown hK hP 0 rfl rfl 0 (by decide) (hts (.fieldLink RX6 14 "LoopEnvelopes" "text" "LLoopEnvelopes$Bytes;") k_60) (fun _ h9 => h9) rfl dX6_set_6 ?_
    have hPc := hP.sub (ws' := [(a1, .inr (0, [.ref ya, .int 0]))]) [1] rfl
    have hDc := hD.sub (ws' := [(a1, .inr (0, [.ref ya, .int 0]))]) [1] (by decide) rfl
    have hKc := hK.sub (tys' := []) [] rfl
    have hFc := va_free (wc := [(a1, .inr (0, [.ref ya, .int 0]))]) hD hS hA [1] rfl
    refine va_calli (va_runV (As := []) (rest := [.int k0]) ⟨hx, hb, hml, hown, hts⟩ (c_X0_length l dC dI s.heap.size a1 ya 0) (cwV 0 hts gg_RX6_58 rfl rfl rfl (by decide +kernel) ⟨Nat.le_of_ble_eq_true rfl, Nat.le_of_ble_eq_true rfl⟩) ⟨fun a U g mk q => by obtain ⟨q0, q1, qP, qK, qD⟩ := q; exact ⟨q0, q1, qP, va_K.moved (u := U) (U := U.calling g mk a) (Vm.Alike.refl U.vm) qK, qD⟩, va_recv hK hP (ci := 0) (q0 := 1) rfl rfl, fun U hU hW => ⟨rfl, by rw [hU], by rw [hU]; exact hPc, va_K.moved hW.alike hKc, hDc.weaken (fun _ _ _ _ => trivial)⟩⟩ rfl rfl hl.1 rfl (lv_room (Nat.le_of_ble_eq_true rfl)) dX6_set_9 ⟨Nat.le_of_ble_eq_true rfl, Nat.le_of_ble_eq_true rfl⟩) hS (fun q _ h => hFc q h) hFc (fun r1 u t H1 locs ht hvm hw hB hz1 hk1 hS => ?_)
    obtain ⟨hP1, hK1, hD1⟩ := hB
    rw [ht] at hP1
    have hK1 := va_K.moved hvm.symm hK1
    obtain ⟨hP, hD⟩ := va_join (wr := [(a0, .inr (6, [.ref a1, .ref a2, .ref a3, .ref a4, .ref a5, .int (-1), .int 0]))]) (w1 := [(a1, .inr (0, [.ref ya, .int 0]))]) hP hD [1] [0] rfl rfl (by decide) (by decide) hk1 hFc hP1 hD1
    have hK := (hK.sub (tys' := []) [] rfl).app hK1
    generalize H1 = H at hP hS ⊢
    have hP : va_P (dC, dI) vwCl [(a0, .inr (6, [.ref a1, .ref a2, .ref a3, .ref a4, .ref a5, .int (-1), .int 0])), (a1, .inr (0, [.ref ya, .int 0]))] H := hP
    have hD : va_D A [(a0, .inr (6, [.ref a1, .ref a2, .ref a3, .ref a4, .ref a5, .int (-1), .int 0])), (a1, .inr (0, [.ref ya, .int 0]))] := hD
    have hK : va_K (dC, dI) vwCl [] s := hK
    have hw : r1 = 0 := hw
    subst hw
    refine lv_icmp_lt (tgt := 18) hx hb dX6_set_12 (by decide) (fun c_12 => absurd c_12 (c_1)) (fun c_12 => ?_)
    refine lv_bipush (v := (-2)) hx hb dX6_set_15 (by decide) ?_
    have hP9 := hP.sub (ws' := []) [] rfl
    have hD9 := hD.sub (ws' := []) [] (by decide) rfl
    have hK9 := hK.sub (tys' := []) [] rfl
    exact W.iret (v := (-2)) hx hb hr (fun t ht hW => ⟨⟨(-2), (), rfl, rfl, by rw [ht]; exact hP9, va_K.moved hW.alike hK9, hD9⟩, hS.F ht⟩) hS.2.2 dX6_set_17

set_option maxHeartbeats 4000000 in
set_option maxRecDepth 100000 in
theorem c_X6_cut (l : Launch) (dC : Nat → ClassId) (dI : Nat → Nat → Nat) (sz : Nat) (a0 : Nat) (a1 : Nat) (a2 : Nat) (a3 : Nat) (a4 : Nat) (a5 : Nat) (ya : Nat) (k0 : Int32) : Met l yX6_cut pwX6_cut ({ frames := 2, cells := 0, slots := 0, locals := 41 } : Room) (va_Pc [.ref a0, .int k0] (fun U => U.heap.size = sz ∧ va_P (dC, dI) vwCl [(a0, .inr (6, [.ref a1, .ref a2, .ref a3, .ref a4, .ref a5, .int (-1), .int 0])), (a1, .inr (0, [.ref ya, .int 0]))] U.heap ∧ va_K (dC, dI) vwCl [] U ∧ va_D (fun _ => True) [(a0, .inr (6, [.ref a1, .ref a2, .ref a3, .ref a4, .ref a5, .int (-1), .int 0])), (a1, .inr (0, [.ref ya, .int 0]))])) (va_Qi (fun (r : Int32) (_ : Unit) => r = pf_cut k0) (fun (_ : Unit) (t : State) => va_P (dC, dI) vwCl [] t.heap ∧ va_K (dC, dI) vwCl [] t ∧ va_D (va_A [(a0, .inr (6, [.ref a1, .ref a2, .ref a3, .ref a4, .ref a5, .int (-1), .int 0])), (a1, .inr (0, [.ref ya, .int 0]))] sz) []) (va_A [(a0, .inr (6, [.ref a1, .ref a2, .ref a3, .ref a4, .ref a5, .int (-1), .int 0])), (a1, .inr (0, [.ref ya, .int 0]))] sz)) 0 0 (va_A [(a0, .inr (6, [.ref a1, .ref a2, .ref a3, .ref a4, .ref a5, .int (-1), .int 0])), (a1, .inr (0, [.ref ya, .int 0]))] sz) := by
  refine Met.ofW (cc := cX6_cut) (maxL := 3) (ret := (some .int)) (by decide) rfl ?_
  intro p e s m args below meth c s₁ B hml hv
  obtain ⟨rfl, hsz, hP, hK, hD0⟩ := hv
  have hx := B.exec
  have hb := B.bytes
  have hr := B.returns
  have hts0 := atoms_spec (ws := pwX6_cut) B.pre
  have hts := fun w (h : w ∈ pwAll) => hts0 w (List.mem_cons_of_mem _ h)
  have hown : s.vm.findClass RX6 = some m.cls := findClass_of_methodNamed B.named
  have hlocks := B.notSynchronized
  subst hsz
  have hD := hD0.self (sz := s.heap.size)
  generalize hAe : va_A [(a0, .inr (6, [.ref a1, .ref a2, .ref a3, .ref a4, .ref a5, .int (-1), .int 0])), (a1, .inr (0, [.ref ya, .int 0]))] s.heap.size = A at hD ⊢
  have hA : ∀ q : Nat, s.heap.size ≤ q → A q := fun q h => by rw [← hAe]; exact Or.inr h
  have hS : va_S A s.heap s.heap [] := va_S.rf
  have hP : va_P (dC, dI) vwCl [(a0, .inr (6, [.ref a1, .ref a2, .ref a3, .ref a4, .ref a5, .int (-1), .int 0])), (a1, .inr (0, [.ref ya, .int 0]))] s.heap := hP
  have hl := lv_entry ([.ref a0, .int k0]) (n := 3) (Nat.le_of_ble_eq_true rfl)
  rw [lg_entry_eq]
  generalize (lg_sl ([.ref a0, .int k0]) ++ List.replicate (3 - (lg_sl ([.ref a0, .int k0])).length) Slot.unset).toArray = ls at hl ⊢
  have hl : lv_has ls 3 [(0, .ref a0), (1, .int k0)] := hl
  refine lv_iload_n hx hb dX6_cut_0 rfl (lv_at hl 1 rfl) ?_
  refine lv_if_lt (tgt := 15) hx hb dX6_cut_1 (by decide) (fun c_1 => ?_) (fun c_1 => ?_)
  · skip
    refine lv_bipush (v := (-3)) hx hb dX6_cut_15 (by decide) ?_
    have hP9 := hP.sub (ws' := []) [] rfl
    have hD9 := hD.sub (ws' := []) [] (by decide) rfl
    have hK9 := hK.sub (tys' := []) [] rfl
    exact W.iret (v := (-3)) hx hb hr (fun t ht hW => ⟨⟨(-3), (), rfl, by unfold pf_cut; rw [if_pos c_1], by rw [ht]; exact hP9, va_K.moved hW.alike hK9, hD9⟩, hS.F ht⟩) hS.2.2 dX6_cut_17
  · skip
    refine lv_iload_n hx hb dX6_cut_4 rfl (lv_at hl 1 rfl) ?_
    refine lv_aload_n hx hb dX6_cut_5 rfl (lv_at hl 0 rfl) ?_
    refine va_get (D := (dC, dI)) (ci := 6) (v := .ref a1) (C := RX6) (T := TX6) (N := 7) hx hb hts inAll_6 hown hK hP 0 rfl rfl 0 (by decide) (hts (.fieldLink RX6 14 "LoopEnvelopes" "text" "LLoopEnvelopes$Bytes;") k_60) (fun _ h9 => h9) rfl dX6_cut_6 ?_
    have hPc := hP.sub (ws' := [(a1, .inr (0, [.ref ya, .int 0]))]) [1] rfl
    have hDc := hD.sub (ws' := [(a1, .inr (0, [.ref ya, .int 0]))]) [1] (by decide) rfl
    have hKc := hK.sub (tys' := []) [] rfl
    have hFc := va_free (wc := [(a1, .inr (0, [.ref ya, .int 0]))]) hD hS hA [1] rfl
    refine va_calli (va_runV (As := []) (rest := [.int k0]) ⟨hx, hb, hml, hown, hts⟩ (c_X0_length l dC dI s.heap.size a1 ya 0) (cwV 0 hts gg_RX6_58 rfl rfl rfl (by decide +kernel) ⟨Nat.le_of_ble_eq_true rfl, Nat.le_of_ble_eq_true rfl⟩) ⟨fun a U g mk q => by obtain ⟨q0, q1, qP, qK, qD⟩ := q; exact ⟨q0, q1, qP, va_K.moved (u := U) (U := U.calling g mk a) (Vm.Alike.refl U.vm) qK, qD⟩, va_recv hK hP (ci := 0) (q0 := 1) rfl rfl, fun U hU hW => ⟨rfl, by rw [hU], by rw [hU]; exact hPc, va_K.moved hW.alike hKc, hDc.weaken (fun _ _ _ _ => trivial)⟩⟩ rfl rfl hl.1 rfl (lv_room (Nat.le_of_ble_eq_true rfl)) dX6_cut_9 ⟨Nat.le_of_ble_eq_true rfl, Nat.le_of_ble_eq_true rfl⟩) hS (fun q _ h => hFc q h) hFc (fun r1 u t H1 locs ht hvm hw hB hz1 hk1 hS => ?_)
    obtain ⟨hP1, hK1, hD1⟩ := hB
    rw [ht] at hP1
    have hK1 := va_K.moved hvm.symm hK1
    obtain ⟨hP, hD⟩ := va_join (wr := [(a0, .inr (6, [.ref a1, .ref a2, .ref a3, .ref a4, .ref a5, .int (-1), .int 0]))]) (w1 := [(a1, .inr (0, [.ref ya, .int 0]))]) hP hD [1] [0] rfl rfl (by decide) (by decide) hk1 hFc hP1 hD1
    have hK := (hK.sub (tys' := []) [] rfl).app hK1
    generalize H1 = H at hP hS ⊢
    have hP : va_P (dC, dI) vwCl [(a0, .inr (6, [.ref a1, .ref a2, .ref a3, .ref a4, .ref a5, .int (-1), .int 0])), (a1, .inr (0, [.ref ya, .int 0]))] H := hP
    have hD : va_D A [(a0, .inr (6, [.ref a1, .ref a2, .ref a3, .ref a4, .ref a5, .int (-1), .int 0])), (a1, .inr (0, [.ref ya, .int 0]))] := hD
    have hK : va_K (dC, dI) vwCl [] s := hK
    have hw : r1 = 0 := hw
    subst hw
    refine lv_icmp_le (tgt := 18) hx hb dX6_cut_12 (by decide) (fun c_12 => ?_) (fun c_12 => ?_)
    · skip
      refine lv_aload_n hx hb dX6_cut_18 rfl (lv_at hl 0 rfl) ?_
      refine va_get (D := (dC, dI)) (ci := 6) (v := .ref a1) (C := RX6) (T := TX6) (N := 7) hx hb hts inAll_6 hown hK hP 0 rfl rfl 0 (by decide) (hts (.fieldLink RX6 14 "LoopEnvelopes" "text" "LLoopEnvelopes$Bytes;") k_60) (fun _ h9 => h9) rfl dX6_cut_19 ?_
      have hPc := hP.sub (ws' := [(a1, .inr (0, [.ref ya, .int 0]))]) [1] rfl
      have hDc := hD.sub (ws' := [(a1, .inr (0, [.ref ya, .int 0]))]) [1] (by decide) rfl
      have hKc := hK.sub (tys' := []) [] rfl
      have hFc := va_free (wc := [(a1, .inr (0, [.ref ya, .int 0]))]) hD hS hA [1] rfl
      refine va_calli (va_runV (As := []) (rest := []) ⟨hx, hb, hml, hown, hts⟩ (c_X0_length l dC dI H.size a1 ya 0) (cwV 0 hts gg_RX6_58 rfl rfl rfl (by decide +kernel) ⟨Nat.le_of_ble_eq_true rfl, Nat.le_of_ble_eq_true rfl⟩) ⟨fun a U g mk q => by obtain ⟨q0, q1, qP, qK, qD⟩ := q; exact ⟨q0, q1, qP, va_K.moved (u := U) (U := U.calling g mk a) (Vm.Alike.refl U.vm) qK, qD⟩, va_recv hK hP (ci := 0) (q0 := 1) rfl rfl, fun U hU hW => ⟨rfl, by rw [hU], by rw [hU]; exact hPc, va_K.moved hW.alike hKc, hDc.weaken (fun _ _ _ _ => trivial)⟩⟩ rfl rfl hl.1 rfl (lv_room (Nat.le_of_ble_eq_true rfl)) dX6_cut_22 ⟨Nat.le_of_ble_eq_true rfl, Nat.le_of_ble_eq_true rfl⟩) hS (fun q _ h => hFc q h) hFc (fun r2 u t H1 locs ht hvm hw hB hz1 hk1 hS => ?_)
      obtain ⟨hP1, hK1, hD1⟩ := hB
      rw [ht] at hP1
      have hK1 := va_K.moved hvm.symm hK1
      obtain ⟨hP, hD⟩ := va_join (wr := [(a0, .inr (6, [.ref a1, .ref a2, .ref a3, .ref a4, .ref a5, .int (-1), .int 0]))]) (w1 := [(a1, .inr (0, [.ref ya, .int 0]))]) hP hD [1] [0] rfl rfl (by decide) (by decide) hk1 hFc hP1 hD1
      have hK := (hK.sub (tys' := []) [] rfl).app hK1
      generalize H1 = H at hP hS ⊢
      have hP : va_P (dC, dI) vwCl [(a0, .inr (6, [.ref a1, .ref a2, .ref a3, .ref a4, .ref a5, .int (-1), .int 0])), (a1, .inr (0, [.ref ya, .int 0]))] H := hP
      have hD : va_D A [(a0, .inr (6, [.ref a1, .ref a2, .ref a3, .ref a4, .ref a5, .int (-1), .int 0])), (a1, .inr (0, [.ref ya, .int 0]))] := hD
      have hK : va_K (dC, dI) vwCl [] s := hK
      have hw : r2 = 0 := hw
      subst hw
      refine lv_iload_n hx hb dX6_cut_25 rfl (lv_at hl 1 rfl) ?_
      refine lv_isub hx hb dX6_cut_26 ?_
      refine pf_top (y := 0) (pf_sub0 c_1 c_12) ?_
      refine lv_istore_n (lv' := [(2, .int 0), (0, .ref a0), (1, .int k0)]) hx hb dX6_cut_27 rfl hl (by decide) rfl (fun ls hl => ?_)
      refine lv_aload_n hx hb dX6_cut_28 rfl (lv_at hl 1 rfl) ?_
      refine va_get (D := (dC, dI)) (ci := 6) (v := .ref a1) (C := RX6) (T := TX6) (N := 7) hx hb hts inAll_6 hown hK hP 0 rfl rfl 0 (by decide) (hts (.fieldLink RX6 14 "LoopEnvelopes" "text" "LLoopEnvelopes$Bytes;") k_60) (fun _ h9 => h9) rfl dX6_cut_29 ?_
      refine lv_iload_n hx hb dX6_cut_32 rfl (lv_at hl 2 rfl) ?_
      have hPc := hP.sub (ws' := [(a1, .inr (0, [.ref ya, .int 0]))]) [1] rfl
      have hDc := hD.sub (ws' := [(a1, .inr (0, [.ref ya, .int 0]))]) [1] (by decide) rfl
      have hKc := hK.sub (tys' := []) [] rfl
      have hFc := va_free (wc := [(a1, .inr (0, [.ref ya, .int 0]))]) hD hS hA [1] rfl
      refine va_callv (va_runV (As := [.int k0]) (rest := []) ⟨hx, hb, hml, hown, hts⟩ (c_X0_shorten l dC dI H.size a1 ya k0 (c_12)) (cwV 1 hts gg_RX6_76 rfl rfl rfl (by decide +kernel) ⟨Nat.le_of_ble_eq_true rfl, Nat.le_of_ble_eq_true rfl⟩) ⟨fun a U g mk q => by obtain ⟨q0, q1, qP, qK, qD⟩ := q; exact ⟨q0, q1, qP, va_K.moved (u := U) (U := U.calling g mk a) (Vm.Alike.refl U.vm) qK, qD⟩, va_recv hK hP (ci := 0) (q0 := 1) rfl rfl, fun U hU hW => ⟨rfl, by rw [hU], by rw [hU]; exact hPc, va_K.moved hW.alike hKc, hDc.weaken (fun _ _ _ _ => trivial)⟩⟩ rfl rfl hl.1 rfl (lv_room (Nat.le_of_ble_eq_true rfl)) dX6_cut_33 ⟨Nat.le_of_ble_eq_true rfl, Nat.le_of_ble_eq_true rfl⟩) hS (fun q _ h => hFc q h) hFc (fun u t H1 locs ht hvm hw hB hz1 hk1 hS => ?_)
      obtain ⟨hP1, hK1, hD1⟩ := hB
      rw [ht] at hP1
      have hK1 := va_K.moved hvm.symm hK1
      obtain ⟨hP, hD⟩ := va_join (wr := [(a0, .inr (6, [.ref a1, .ref a2, .ref a3, .ref a4, .ref a5, .int (-1), .int 0]))]) (w1 := [(a1, .inr (0, [.ref ya, .int 0]))]) hP hD [1] [0] rfl rfl (by decide) (by decide) hk1 hFc hP1 hD1
      have hK := (hK.sub (tys' := []) [] rfl).app hK1
      generalize H1 = H at hP hS ⊢
      have hP : va_P (dC, dI) vwCl [(a0, .inr (6, [.ref a1, .ref a2, .ref a3, .ref a4, .ref a5, .int (-1), .int 0])), (a1, .inr (0, [.ref ya, .int 0]))] H := hP
      have hD : va_D A [(a0, .inr (6, [.ref a1, .ref a2, .ref a3, .ref a4, .ref a5, .int (-1), .int 0])), (a1, .inr (0, [.ref ya, .int 0]))] := hD
      have hK : va_K (dC, dI) vwCl [] s := hK
      refine lv_iload_n hx hb dX6_cut_36 rfl (lv_at hl 0 rfl) ?_
      have hP9 := hP.sub (ws' := []) [] rfl
      have hD9 := hD.sub (ws' := []) [] (by decide) rfl
      have hK9 := hK.sub (tys' := []) [] rfl
      exact W.iret (v := 0) hx hb hr (fun t ht hW => ⟨⟨0, (), rfl, by unfold pf_cut; rw [if_neg c_1, if_pos c_12], by rw [ht]; exact hP9, va_K.moved hW.alike hK9, hD9⟩, hS.F ht⟩) hS.2.2 dX6_cut_37
    · skip
      refine lv_bipush (v := (-3)) hx hb dX6_cut_15 (by decide) ?_
      have hP9 := hP.sub (ws' := []) [] rfl
      have hD9 := hD.sub (ws' := []) [] (by decide) rfl
      have hK9 := hK.sub (tys' := []) [] rfl
      exact W.iret (v := (-3)) hx hb hr (fun t ht hW => ⟨⟨(-3), (), rfl, by unfold pf_cut; rw [if_neg c_1, if_neg c_12], by rw [ht]; exact hP9, va_K.moved hW.alike hK9, hD9⟩, hS.F ht⟩) hS.2.2 dX6_cut_17

set_option maxHeartbeats 4000000 in
set_option maxRecDepth 100000 in
theorem c_X6_count (l : Launch) (dC : Nat → ClassId) (dI : Nat → Nat → Nat) (sz : Nat) (a0 : Nat) (a1 : Nat) (a2 : Nat) (a3 : Nat) (a4 : Nat) (a5 : Nat) (ya : Nat) (h4 : Nat) (b5 : Nat) (yc : Nat) (k0 : Int32) : Met l yX6_count pwX6_count ({ frames := 2, cells := 0, slots := 0, locals := 40 } : Room) (va_Pc [.ref a0, .int k0] (fun U => U.heap.size = sz ∧ va_P (dC, dI) vwCl [(a0, .inr (6, [.ref a1, .ref a2, .ref a3, .ref a4, .ref a5, .int (-1), .int 0])), (a1, .inr (0, [.ref ya, .int 0])), (a5, .inr (5, [.ref h4, .ref b5, .int 0])), (b5, .inr (0, [.ref yc, .int 0]))] U.heap ∧ va_K (dC, dI) vwCl [] U ∧ va_D (fun _ => True) [(a0, .inr (6, [.ref a1, .ref a2, .ref a3, .ref a4, .ref a5, .int (-1), .int 0])), (a1, .inr (0, [.ref ya, .int 0])), (a5, .inr (5, [.ref h4, .ref b5, .int 0])), (b5, .inr (0, [.ref yc, .int 0]))])) (va_Qi (fun (r : Int32) (_ : Unit) => r = pf_count k0) (fun (_ : Unit) (t : State) => va_P (dC, dI) vwCl [] t.heap ∧ va_K (dC, dI) vwCl [] t ∧ va_D (va_A [(a0, .inr (6, [.ref a1, .ref a2, .ref a3, .ref a4, .ref a5, .int (-1), .int 0])), (a1, .inr (0, [.ref ya, .int 0])), (a5, .inr (5, [.ref h4, .ref b5, .int 0])), (b5, .inr (0, [.ref yc, .int 0]))] sz) []) (va_A [(a0, .inr (6, [.ref a1, .ref a2, .ref a3, .ref a4, .ref a5, .int (-1), .int 0])), (a1, .inr (0, [.ref ya, .int 0])), (a5, .inr (5, [.ref h4, .ref b5, .int 0])), (b5, .inr (0, [.ref yc, .int 0]))] sz)) 0 0 (va_A [(a0, .inr (6, [.ref a1, .ref a2, .ref a3, .ref a4, .ref a5, .int (-1), .int 0])), (a1, .inr (0, [.ref ya, .int 0])), (a5, .inr (5, [.ref h4, .ref b5, .int 0])), (b5, .inr (0, [.ref yc, .int 0]))] sz) := by
  refine Met.ofW (cc := cX6_count) (maxL := 2) (ret := (some .int)) (by decide) rfl ?_
  intro p e s m args below meth c s₁ B hml hv
  obtain ⟨rfl, hsz, hP, hK, hD0⟩ := hv
  have hx := B.exec
  have hb := B.bytes
  have hr := B.returns
  have hts0 := atoms_spec (ws := pwX6_count) B.pre
  have hts := fun w (h : w ∈ pwAll) => hts0 w (List.mem_cons_of_mem _ h)
  have hown : s.vm.findClass RX6 = some m.cls := findClass_of_methodNamed B.named
  have hlocks := B.notSynchronized
  subst hsz
  have hD := hD0.self (sz := s.heap.size)
  generalize hAe : va_A [(a0, .inr (6, [.ref a1, .ref a2, .ref a3, .ref a4, .ref a5, .int (-1), .int 0])), (a1, .inr (0, [.ref ya, .int 0])), (a5, .inr (5, [.ref h4, .ref b5, .int 0])), (b5, .inr (0, [.ref yc, .int 0]))] s.heap.size = A at hD ⊢
  have hA : ∀ q : Nat, s.heap.size ≤ q → A q := fun q h => by rw [← hAe]; exact Or.inr h
  have hS : va_S A s.heap s.heap [] := va_S.rf
  have hP : va_P (dC, dI) vwCl [(a0, .inr (6, [.ref a1, .ref a2, .ref a3, .ref a4, .ref a5, .int (-1), .int 0])), (a1, .inr (0, [.ref ya, .int 0])), (a5, .inr (5, [.ref h4, .ref b5, .int 0])), (b5, .inr (0, [.ref yc, .int 0]))] s.heap := hP
  have hl := lv_entry ([.ref a0, .int k0]) (n := 2) (Nat.le_of_ble_eq_true rfl)
  rw [lg_entry_eq]
  generalize (lg_sl ([.ref a0, .int k0]) ++ List.replicate (2 - (lg_sl ([.ref a0, .int k0])).length) Slot.unset).toArray = ls at hl ⊢
  have hl : lv_has ls 2 [(0, .ref a0), (1, .int k0)] := hl
  refine lv_iload_n hx hb dX6_count_0 rfl (lv_at hl 1 rfl) ?_
  refine lv_if_lt (tgt := 10) hx hb dX6_count_1 (by decide) (fun c_1 => ?_) (fun c_1 => ?_)
  · skip
    refine lv_bipush (v := (-3)) hx hb dX6_count_10 (by decide) ?_
    have hP9 := hP.sub (ws' := []) [] rfl
    have hD9 := hD.sub (ws' := []) [] (by decide) rfl
    have hK9 := hK.sub (tys' := []) [] rfl
    exact W.iret (v := (-3)) hx hb hr (fun t ht hW => ⟨⟨(-3), (), rfl, by unfold pf_count; rw [if_pos c_1], by rw [ht]; exact hP9, va_K.moved hW.alike hK9, hD9⟩, hS.F ht⟩) hS.2.2 dX6_count_12
  · skip
    refine lv_iload_n hx hb dX6_count_4 rfl (lv_at hl 1 rfl) ?_
    refine lv_bipush (v := 6) hx hb dX6_count_5 (by decide) ?_
    refine lv_icmp_le (tgt := 13) hx hb dX6_count_7 (by decide) (fun c_7 => ?_) (fun c_7 => ?_)
    · skip
      refine lv_iload_n hx hb dX6_count_13 rfl (lv_at hl 1 rfl) ?_
      refine lv_iconst (v := 5) hx hb dX6_count_14 (by decide) ?_
      refine lv_icmp_ne (tgt := 26) hx hb dX6_count_15 (by decide) (fun c_15 => ?_) (fun c_15 => ?_)
      · skip
        refine lv_iload_n hx hb dX6_count_26 rfl (lv_at hl 1 rfl) ?_
        refine lv_bipush (v := 6) hx hb dX6_count_27 (by decide) ?_
        refine lv_icmp_ne (tgt := 40) hx hb dX6_count_29 (by decide) (fun c_29 => ?_) (fun c_29 => ?_)
        · skip
          refine lv_aload_n hx hb dX6_count_40 rfl (lv_at hl 0 rfl) ?_
          refine va_get (D := (dC, dI)) (ci := 6) (v := .int 0) (C := RX6) (T := TX6) (N := 7) hx hb hts inAll_6 hown hK hP 0 rfl rfl 6 (by decide) (hts (.fieldLink RX6 54 "LoopEnvelopes" "taken" "Z") k_90) (fun _ h9 => h9) rfl dX6_count_41 ?_
          refine lv_if_ne (tgt := 50) hx hb dX6_count_44 (by decide) (fun c_44 => absurd (rfl) c_44) (fun c_44 => ?_)
          refine lv_bipush (v := (-4)) hx hb dX6_count_47 (by decide) ?_
          have hP9 := hP.sub (ws' := []) [] rfl
          have hD9 := hD.sub (ws' := []) [] (by decide) rfl
          have hK9 := hK.sub (tys' := []) [] rfl
          exact W.iret (v := (-4)) hx hb hr (fun t ht hW => ⟨⟨(-4), (), rfl, by unfold pf_count; rw [if_neg c_1, if_pos c_7, if_neg c_15, if_neg c_29], by rw [ht]; exact hP9, va_K.moved hW.alike hK9, hD9⟩, hS.F ht⟩) hS.2.2 dX6_count_49
        · skip
          refine lv_aload_n hx hb dX6_count_32 rfl (lv_at hl 0 rfl) ?_
          refine va_get (D := (dC, dI)) (ci := 6) (v := .ref a5) (C := RX6) (T := TX6) (N := 7) hx hb hts inAll_6 hown hK hP 0 rfl rfl 4 (by decide) (hts (.fieldLink RX6 46 "LoopEnvelopes" "writer" "LLoopEnvelopes$Writer;") k_88) (fun _ h9 => h9) rfl dX6_count_33 ?_
          have hPc := hP.sub (ws' := [(a5, .inr (5, [.ref h4, .ref b5, .int 0])), (b5, .inr (0, [.ref yc, .int 0]))]) [2, 3] rfl
          have hDc := hD.sub (ws' := [(a5, .inr (5, [.ref h4, .ref b5, .int 0])), (b5, .inr (0, [.ref yc, .int 0]))]) [2, 3] (by decide) rfl
          have hKc := hK.sub (tys' := []) [] rfl
          have hFc := va_free (wc := [(a5, .inr (5, [.ref h4, .ref b5, .int 0])), (b5, .inr (0, [.ref yc, .int 0]))]) hD hS hA [2, 3] rfl
          refine va_calli (va_runV (As := []) (rest := []) ⟨hx, hb, hml, hown, hts⟩ (c_X5_length l dC dI s.heap.size a5 h4 b5 yc) (cwV 0 hts gg_RX6_103 rfl rfl rfl (by decide +kernel) ⟨Nat.le_of_ble_eq_true rfl, Nat.le_of_ble_eq_true rfl⟩) ⟨fun a U g mk q => by obtain ⟨q0, q1, qP, qK, qD⟩ := q; exact ⟨q0, q1, qP, va_K.moved (u := U) (U := U.calling g mk a) (Vm.Alike.refl U.vm) qK, qD⟩, va_recv hK hP (ci := 5) (q0 := 2) rfl rfl, fun U hU hW => ⟨rfl, by rw [hU], by rw [hU]; exact hPc, va_K.moved hW.alike hKc, hDc.weaken (fun _ _ _ _ => trivial)⟩⟩ rfl rfl hl.1 rfl (lv_room (Nat.le_of_ble_eq_true rfl)) dX6_count_36 ⟨Nat.le_of_ble_eq_true rfl, Nat.le_of_ble_eq_true rfl⟩) hS (fun q _ h => hFc q h) hFc (fun r1 u t H1 locs ht hvm hw hB hz1 hk1 hS => ?_)
          obtain ⟨hP1, hK1, hD1⟩ := hB
          rw [ht] at hP1
          have hK1 := va_K.moved hvm.symm hK1
          obtain ⟨hP, hD⟩ := va_join (wr := [(a0, .inr (6, [.ref a1, .ref a2, .ref a3, .ref a4, .ref a5, .int (-1), .int 0])), (a1, .inr (0, [.ref ya, .int 0]))]) (w1 := [(a5, .inr (5, [.ref h4, .ref b5, .int 0])), (b5, .inr (0, [.ref yc, .int 0]))]) hP hD [2, 3] [0, 1] rfl rfl (by decide) (by decide) hk1 hFc hP1 hD1
          have hK := (hK.sub (tys' := []) [] rfl).app hK1
          generalize H1 = H at hP hS ⊢
          have hP : va_P (dC, dI) vwCl [(a0, .inr (6, [.ref a1, .ref a2, .ref a3, .ref a4, .ref a5, .int (-1), .int 0])), (a1, .inr (0, [.ref ya, .int 0])), (a5, .inr (5, [.ref h4, .ref b5, .int 0])), (b5, .inr (0, [.ref yc, .int 0]))] H := hP
          have hD : va_D A [(a0, .inr (6, [.ref a1, .ref a2, .ref a3, .ref a4, .ref a5, .int (-1), .int 0])), (a1, .inr (0, [.ref ya, .int 0])), (a5, .inr (5, [.ref h4, .ref b5, .int 0])), (b5, .inr (0, [.ref yc, .int 0]))] := hD
          have hK : va_K (dC, dI) vwCl [] s := hK
          have hw : r1 = 0 := hw
          subst hw
          have hP9 := hP.sub (ws' := []) [] rfl
          have hD9 := hD.sub (ws' := []) [] (by decide) rfl
          have hK9 := hK.sub (tys' := []) [] rfl
          exact W.iret (v := 0) hx hb hr (fun t ht hW => ⟨⟨0, (), rfl, by unfold pf_count; rw [if_neg c_1, if_pos c_7, if_neg c_15, if_pos c_29], by rw [ht]; exact hP9, va_K.moved hW.alike hK9, hD9⟩, hS.F ht⟩) hS.2.2 dX6_count_39
      · skip
        refine lv_aload_n hx hb dX6_count_18 rfl (lv_at hl 0 rfl) ?_
        refine va_get (D := (dC, dI)) (ci := 6) (v := .ref a1) (C := RX6) (T := TX6) (N := 7) hx hb hts inAll_6 hown hK hP 0 rfl rfl 0 (by decide) (hts (.fieldLink RX6 14 "LoopEnvelopes" "text" "LLoopEnvelopes$Bytes;") k_60) (fun _ h9 => h9) rfl dX6_count_19 ?_
        have hPc := hP.sub (ws' := [(a1, .inr (0, [.ref ya, .int 0]))]) [1] rfl
        have hDc := hD.sub (ws' := [(a1, .inr (0, [.ref ya, .int 0]))]) [1] (by decide) rfl
        have hKc := hK.sub (tys' := []) [] rfl
        have hFc := va_free (wc := [(a1, .inr (0, [.ref ya, .int 0]))]) hD hS hA [1] rfl
        refine va_calli (va_runV (As := []) (rest := []) ⟨hx, hb, hml, hown, hts⟩ (c_X0_length l dC dI s.heap.size a1 ya 0) (cwV 0 hts gg_RX6_58 rfl rfl rfl (by decide +kernel) ⟨Nat.le_of_ble_eq_true rfl, Nat.le_of_ble_eq_true rfl⟩) ⟨fun a U g mk q => by obtain ⟨q0, q1, qP, qK, qD⟩ := q; exact ⟨q0, q1, qP, va_K.moved (u := U) (U := U.calling g mk a) (Vm.Alike.refl U.vm) qK, qD⟩, va_recv hK hP (ci := 0) (q0 := 1) rfl rfl, fun U hU hW => ⟨rfl, by rw [hU], by rw [hU]; exact hPc, va_K.moved hW.alike hKc, hDc.weaken (fun _ _ _ _ => trivial)⟩⟩ rfl rfl hl.1 rfl (lv_room (Nat.le_of_ble_eq_true rfl)) dX6_count_22 ⟨Nat.le_of_ble_eq_true rfl, Nat.le_of_ble_eq_true rfl⟩) hS (fun q _ h => hFc q h) hFc (fun r2 u t H1 locs ht hvm hw hB hz1 hk1 hS => ?_)
        obtain ⟨hP1, hK1, hD1⟩ := hB
        rw [ht] at hP1
        have hK1 := va_K.moved hvm.symm hK1
        obtain ⟨hP, hD⟩ := va_join (wr := [(a0, .inr (6, [.ref a1, .ref a2, .ref a3, .ref a4, .ref a5, .int (-1), .int 0])), (a5, .inr (5, [.ref h4, .ref b5, .int 0])), (b5, .inr (0, [.ref yc, .int 0]))]) (w1 := [(a1, .inr (0, [.ref ya, .int 0]))]) hP hD [1] [0, 2, 3] rfl rfl (by decide) (by decide) hk1 hFc hP1 hD1
        have hK := (hK.sub (tys' := []) [] rfl).app hK1
        generalize H1 = H at hP hS ⊢
        have hP : va_P (dC, dI) vwCl [(a0, .inr (6, [.ref a1, .ref a2, .ref a3, .ref a4, .ref a5, .int (-1), .int 0])), (a5, .inr (5, [.ref h4, .ref b5, .int 0])), (b5, .inr (0, [.ref yc, .int 0])), (a1, .inr (0, [.ref ya, .int 0]))] H := hP
        have hD : va_D A [(a0, .inr (6, [.ref a1, .ref a2, .ref a3, .ref a4, .ref a5, .int (-1), .int 0])), (a5, .inr (5, [.ref h4, .ref b5, .int 0])), (b5, .inr (0, [.ref yc, .int 0])), (a1, .inr (0, [.ref ya, .int 0]))] := hD
        have hK : va_K (dC, dI) vwCl [] s := hK
        have hw : r2 = 0 := hw
        subst hw
        have hP9 := hP.sub (ws' := []) [] rfl
        have hD9 := hD.sub (ws' := []) [] (by decide) rfl
        have hK9 := hK.sub (tys' := []) [] rfl
        exact W.iret (v := 0) hx hb hr (fun t ht hW => ⟨⟨0, (), rfl, by unfold pf_count; rw [if_neg c_1, if_pos c_7, if_pos c_15], by rw [ht]; exact hP9, va_K.moved hW.alike hK9, hD9⟩, hS.F ht⟩) hS.2.2 dX6_count_25
    · skip
      refine lv_bipush (v := (-3)) hx hb dX6_count_10 (by decide) ?_
      have hP9 := hP.sub (ws' := []) [] rfl
      have hD9 := hD.sub (ws' := []) [] (by decide) rfl
      have hK9 := hK.sub (tys' := []) [] rfl
      exact W.iret (v := (-3)) hx hb hr (fun t ht hW => ⟨⟨(-3), (), rfl, by unfold pf_count; rw [if_neg c_1, if_neg c_7], by rw [ht]; exact hP9, va_K.moved hW.alike hK9, hD9⟩, hS.F ht⟩) hS.2.2 dX6_count_12

set_option maxHeartbeats 4000000 in
set_option maxRecDepth 100000 in
theorem c_X6_answered (l : Launch) (dC : Nat → ClassId) (dI : Nat → Nat → Nat) (sz : Nat) (a0 : Nat) (a1 : Nat) (a2 : Nat) (a3 : Nat) (a4 : Nat) (a5 : Nat) (h4 : Nat) (b5 : Nat) (yc : Nat) (k0 : Int32) : Met l yX6_answered pwX6_answered ({ frames := 2, cells := 0, slots := 0, locals := 42 } : Room) (va_Pc [.ref a0, .int k0] (fun U => U.heap.size = sz ∧ va_P (dC, dI) vwCl [(a0, .inr (6, [.ref a1, .ref a2, .ref a3, .ref a4, .ref a5, .int (-1), .int 0])), (a5, .inr (5, [.ref h4, .ref b5, .int 0])), (b5, .inr (0, [.ref yc, .int 0]))] U.heap ∧ va_K (dC, dI) vwCl [] U ∧ va_D (fun _ => True) [(a0, .inr (6, [.ref a1, .ref a2, .ref a3, .ref a4, .ref a5, .int (-1), .int 0])), (a5, .inr (5, [.ref h4, .ref b5, .int 0])), (b5, .inr (0, [.ref yc, .int 0]))])) (va_Qi (fun (r : Int32) (_ : Unit) => r = (-2)) (fun (_ : Unit) (t : State) => va_P (dC, dI) vwCl [] t.heap ∧ va_K (dC, dI) vwCl [] t ∧ va_D (va_A [(a0, .inr (6, [.ref a1, .ref a2, .ref a3, .ref a4, .ref a5, .int (-1), .int 0])), (a5, .inr (5, [.ref h4, .ref b5, .int 0])), (b5, .inr (0, [.ref yc, .int 0]))] sz) []) (va_A [(a0, .inr (6, [.ref a1, .ref a2, .ref a3, .ref a4, .ref a5, .int (-1), .int 0])), (a5, .inr (5, [.ref h4, .ref b5, .int 0])), (b5, .inr (0, [.ref yc, .int 0]))] sz)) 0 0 (va_A [(a0, .inr (6, [.ref a1, .ref a2, .ref a3, .ref a4, .ref a5, .int (-1), .int 0])), (a5, .inr (5, [.ref h4, .ref b5, .int 0])), (b5, .inr (0, [.ref yc, .int 0]))] sz) := by
  refine Met.ofW (cc := cX6_answered) (maxL := 3) (ret := (some .int)) (by decide) rfl ?_
  intro p e s m args below meth c s₁ B hml hv
  obtain ⟨rfl, hsz, hP, hK, hD0⟩ := hv
  have hx := B.exec
  have hb := B.bytes
  have hr := B.returns
  have hts0 := atoms_spec (ws := pwX6_answered) B.pre
  have hts := fun w (h : w ∈ pwAll) => hts0 w (List.mem_cons_of_mem _ h)
  have hown : s.vm.findClass RX6 = some m.cls := findClass_of_methodNamed B.named
  have hlocks := B.notSynchronized
  subst hsz
  have hD := hD0.self (sz := s.heap.size)
  generalize hAe : va_A [(a0, .inr (6, [.ref a1, .ref a2, .ref a3, .ref a4, .ref a5, .int (-1), .int 0])), (a5, .inr (5, [.ref h4, .ref b5, .int 0])), (b5, .inr (0, [.ref yc, .int 0]))] s.heap.size = A at hD ⊢
  have hA : ∀ q : Nat, s.heap.size ≤ q → A q := fun q h => by rw [← hAe]; exact Or.inr h
  have hS : va_S A s.heap s.heap [] := va_S.rf
  have hP : va_P (dC, dI) vwCl [(a0, .inr (6, [.ref a1, .ref a2, .ref a3, .ref a4, .ref a5, .int (-1), .int 0])), (a5, .inr (5, [.ref h4, .ref b5, .int 0])), (b5, .inr (0, [.ref yc, .int 0]))] s.heap := hP
  have hl := lv_entry ([.ref a0, .int k0]) (n := 3) (Nat.le_of_ble_eq_true rfl)
  rw [lg_entry_eq]
  generalize (lg_sl ([.ref a0, .int k0]) ++ List.replicate (3 - (lg_sl ([.ref a0, .int k0])).length) Slot.unset).toArray = ls at hl ⊢
  have hl : lv_has ls 3 [(0, .ref a0), (1, .int k0)] := hl
  refine lv_aload_n hx hb dX6_answered_0 rfl (lv_at hl 0 rfl) ?_
  refine va_get (D := (dC, dI)) (ci := 6) (v := .ref a5) (C := RX6) (T := TX6) (N := 7) hx hb hts inAll_6 hown hK hP 0 rfl rfl 4 (by decide) (hts (.fieldLink RX6 46 "LoopEnvelopes" "writer" "LLoopEnvelopes$Writer;") k_88) (fun _ h9 => h9) rfl dX6_answered_1 ?_
  refine lv_iload_n hx hb dX6_answered_4 rfl (lv_at hl 1 rfl) ?_
  have hPc := hP.sub (ws' := [(a5, .inr (5, [.ref h4, .ref b5, .int 0])), (b5, .inr (0, [.ref yc, .int 0]))]) [1, 2] rfl
  have hDc := hD.sub (ws' := [(a5, .inr (5, [.ref h4, .ref b5, .int 0])), (b5, .inr (0, [.ref yc, .int 0]))]) [1, 2] (by decide) rfl
  have hKc := hK.sub (tys' := []) [] rfl
  have hFc := va_free (wc := [(a5, .inr (5, [.ref h4, .ref b5, .int 0])), (b5, .inr (0, [.ref yc, .int 0]))]) hD hS hA [1, 2] rfl
  refine va_calli (va_runV (As := [.int k0]) (rest := []) ⟨hx, hb, hml, hown, hts⟩ (c_X5_at l dC dI s.heap.size a5 h4 b5 yc k0) (cwV 1 hts gg_RX6_169 rfl rfl rfl (by decide +kernel) ⟨Nat.le_of_ble_eq_true rfl, Nat.le_of_ble_eq_true rfl⟩) ⟨fun a U g mk q => by obtain ⟨q0, q1, qP, qK, qD⟩ := q; exact ⟨q0, q1, qP, va_K.moved (u := U) (U := U.calling g mk a) (Vm.Alike.refl U.vm) qK, qD⟩, va_recv hK hP (ci := 5) (q0 := 1) rfl rfl, fun U hU hW => ⟨rfl, by rw [hU], by rw [hU]; exact hPc, va_K.moved hW.alike hKc, hDc.weaken (fun _ _ _ _ => trivial)⟩⟩ rfl rfl hl.1 rfl (lv_room (Nat.le_of_ble_eq_true rfl)) dX6_answered_5 ⟨Nat.le_of_ble_eq_true rfl, Nat.le_of_ble_eq_true rfl⟩) hS (fun q _ h => hFc q h) hFc (fun r1 u t H1 locs ht hvm hw hB hz1 hk1 hS => ?_)
  obtain ⟨hP1, hK1, hD1⟩ := hB
  rw [ht] at hP1
  have hK1 := va_K.moved hvm.symm hK1
  obtain ⟨hP, hD⟩ := va_join (wr := [(a0, .inr (6, [.ref a1, .ref a2, .ref a3, .ref a4, .ref a5, .int (-1), .int 0]))]) (w1 := [(a5, .inr (5, [.ref h4, .ref b5, .int 0])), (b5, .inr (0, [.ref yc, .int 0]))]) hP hD [1, 2] [0] rfl rfl (by decide) (by decide) hk1 hFc hP1 hD1
  have hK := (hK.sub (tys' := []) [] rfl).app hK1
  generalize H1 = H at hP hS ⊢
  have hP : va_P (dC, dI) vwCl [(a0, .inr (6, [.ref a1, .ref a2, .ref a3, .ref a4, .ref a5, .int (-1), .int 0])), (a5, .inr (5, [.ref h4, .ref b5, .int 0])), (b5, .inr (0, [.ref yc, .int 0]))] H := hP
  have hD : va_D A [(a0, .inr (6, [.ref a1, .ref a2, .ref a3, .ref a4, .ref a5, .int (-1), .int 0])), (a5, .inr (5, [.ref h4, .ref b5, .int 0])), (b5, .inr (0, [.ref yc, .int 0]))] := hD
  have hK : va_K (dC, dI) vwCl [] s := hK
  have hw : r1 = (-1) := hw
  subst hw
  refine lv_istore_n (lv' := [(2, .int (-1)), (0, .ref a0), (1, .int k0)]) hx hb dX6_answered_8 rfl hl (by decide) rfl (fun ls hl => ?_)
  refine lv_iload_n hx hb dX6_answered_9 rfl (lv_at hl 0 rfl) ?_
  refine lv_iconst (v := (-1)) hx hb dX6_answered_10 (by decide) ?_
  refine lv_icmp_ne (tgt := 19) hx hb dX6_answered_11 (by decide) (fun c_11 => absurd (rfl) c_11) (fun c_11 => ?_)
  refine lv_bipush (v := (-2)) hx hb dX6_answered_14 (by decide) ?_
  refine lv_goto (tgt := 20) hx hb dX6_answered_16 (by decide) ?_
  have hP9 := hP.sub (ws' := []) [] rfl
  have hD9 := hD.sub (ws' := []) [] (by decide) rfl
  have hK9 := hK.sub (tys' := []) [] rfl
  exact W.iret (v := (-2)) hx hb hr (fun t ht hW => ⟨⟨(-2), (), rfl, rfl, by rw [ht]; exact hP9, va_K.moved hW.alike hK9, hD9⟩, hS.F ht⟩) hS.2.2 dX6_answered_20

set_option maxHeartbeats 4000000 in
set_option maxRecDepth 100000 in
theorem c_X6_turn (l : Launch) (dC : Nat → ClassId) (dI : Nat → Nat → Nat) (sz : Nat) (a0 : Nat) (a1 : Nat) (a2 : Nat) (a3 : Nat) (a4 : Nat) (a5 : Nat) (h4 : Nat) (b5 : Nat) (yc : Nat) : Met l yX6_turn pwX6_turn ({ frames := 2, cells := 0, slots := 0, locals := 40 } : Room) (va_Pc [.ref a0] (fun U => U.heap.size = sz ∧ va_P (dC, dI) vwCl [(a0, .inr (6, [.ref a1, .ref a2, .ref a3, .ref a4, .ref a5, .int (-1), .int 0])), (a5, .inr (5, [.ref h4, .ref b5, .int 0])), (b5, .inr (0, [.ref yc, .int 0]))] U.heap ∧ va_K (dC, dI) vwCl [] U ∧ va_D (fun _ => True) [(a0, .inr (6, [.ref a1, .ref a2, .ref a3, .ref a4, .ref a5, .int (-1), .int 0])), (a5, .inr (5, [.ref h4, .ref b5, .int 0])), (b5, .inr (0, [.ref yc, .int 0]))])) (va_Qi (fun (r : Int32) (_ : Unit) => r = (-4)) (fun (_ : Unit) (t : State) => va_P (dC, dI) vwCl [] t.heap ∧ va_K (dC, dI) vwCl [] t ∧ va_D (va_A [(a0, .inr (6, [.ref a1, .ref a2, .ref a3, .ref a4, .ref a5, .int (-1), .int 0])), (a5, .inr (5, [.ref h4, .ref b5, .int 0])), (b5, .inr (0, [.ref yc, .int 0]))] sz) []) (va_A [(a0, .inr (6, [.ref a1, .ref a2, .ref a3, .ref a4, .ref a5, .int (-1), .int 0])), (a5, .inr (5, [.ref h4, .ref b5, .int 0])), (b5, .inr (0, [.ref yc, .int 0]))] sz)) 0 0 (va_A [(a0, .inr (6, [.ref a1, .ref a2, .ref a3, .ref a4, .ref a5, .int (-1), .int 0])), (a5, .inr (5, [.ref h4, .ref b5, .int 0])), (b5, .inr (0, [.ref yc, .int 0]))] sz) := by
  refine Met.ofW (cc := cX6_turn) (maxL := 2) (ret := (some .int)) (by decide) rfl ?_
  intro p e s m args below meth c s₁ B hml hv
  obtain ⟨rfl, hsz, hP, hK, hD0⟩ := hv
  have hx := B.exec
  have hb := B.bytes
  have hr := B.returns
  have hts0 := atoms_spec (ws := pwX6_turn) B.pre
  have hts := fun w (h : w ∈ pwAll) => hts0 w (List.mem_cons_of_mem _ h)
  have hown : s.vm.findClass RX6 = some m.cls := findClass_of_methodNamed B.named
  have hlocks := B.notSynchronized
  subst hsz
  have hD := hD0.self (sz := s.heap.size)
  generalize hAe : va_A [(a0, .inr (6, [.ref a1, .ref a2, .ref a3, .ref a4, .ref a5, .int (-1), .int 0])), (a5, .inr (5, [.ref h4, .ref b5, .int 0])), (b5, .inr (0, [.ref yc, .int 0]))] s.heap.size = A at hD ⊢
  have hA : ∀ q : Nat, s.heap.size ≤ q → A q := fun q h => by rw [← hAe]; exact Or.inr h
  have hS : va_S A s.heap s.heap [] := va_S.rf
  have hP : va_P (dC, dI) vwCl [(a0, .inr (6, [.ref a1, .ref a2, .ref a3, .ref a4, .ref a5, .int (-1), .int 0])), (a5, .inr (5, [.ref h4, .ref b5, .int 0])), (b5, .inr (0, [.ref yc, .int 0]))] s.heap := hP
  have hl := lv_entry ([.ref a0]) (n := 2) (Nat.le_of_ble_eq_true rfl)
  rw [lg_entry_eq]
  generalize (lg_sl ([.ref a0]) ++ List.replicate (2 - (lg_sl ([.ref a0])).length) Slot.unset).toArray = ls at hl ⊢
  have hl : lv_has ls 2 [(0, .ref a0)] := hl
  refine lv_aload_n hx hb dX6_turn_0 rfl (lv_at hl 0 rfl) ?_
  refine va_get (D := (dC, dI)) (ci := 6) (v := .ref a5) (C := RX6) (T := TX6) (N := 7) hx hb hts inAll_6 hown hK hP 0 rfl rfl 4 (by decide) (hts (.fieldLink RX6 46 "LoopEnvelopes" "writer" "LLoopEnvelopes$Writer;") k_88) (fun _ h9 => h9) rfl dX6_turn_1 ?_
  have hPc := hP.sub (ws' := [(a5, .inr (5, [.ref h4, .ref b5, .int 0])), (b5, .inr (0, [.ref yc, .int 0]))]) [1, 2] rfl
  have hDc := hD.sub (ws' := [(a5, .inr (5, [.ref h4, .ref b5, .int 0])), (b5, .inr (0, [.ref yc, .int 0]))]) [1, 2] (by decide) rfl
  have hKc := hK.sub (tys' := []) [] rfl
  have hFc := va_free (wc := [(a5, .inr (5, [.ref h4, .ref b5, .int 0])), (b5, .inr (0, [.ref yc, .int 0]))]) hD hS hA [1, 2] rfl
  refine va_calli (va_runV (As := []) (rest := []) ⟨hx, hb, hml, hown, hts⟩ (c_X5_length l dC dI s.heap.size a5 h4 b5 yc) (cwV 0 hts gg_RX6_103 rfl rfl rfl (by decide +kernel) ⟨Nat.le_of_ble_eq_true rfl, Nat.le_of_ble_eq_true rfl⟩) ⟨fun a U g mk q => by obtain ⟨q0, q1, qP, qK, qD⟩ := q; exact ⟨q0, q1, qP, va_K.moved (u := U) (U := U.calling g mk a) (Vm.Alike.refl U.vm) qK, qD⟩, va_recv hK hP (ci := 5) (q0 := 1) rfl rfl, fun U hU hW => ⟨rfl, by rw [hU], by rw [hU]; exact hPc, va_K.moved hW.alike hKc, hDc.weaken (fun _ _ _ _ => trivial)⟩⟩ rfl rfl hl.1 rfl (lv_room (Nat.le_of_ble_eq_true rfl)) dX6_turn_4 ⟨Nat.le_of_ble_eq_true rfl, Nat.le_of_ble_eq_true rfl⟩) hS (fun q _ h => hFc q h) hFc (fun r1 u t H1 locs ht hvm hw hB hz1 hk1 hS => ?_)
  obtain ⟨hP1, hK1, hD1⟩ := hB
  rw [ht] at hP1
  have hK1 := va_K.moved hvm.symm hK1
  obtain ⟨hP, hD⟩ := va_join (wr := [(a0, .inr (6, [.ref a1, .ref a2, .ref a3, .ref a4, .ref a5, .int (-1), .int 0]))]) (w1 := [(a5, .inr (5, [.ref h4, .ref b5, .int 0])), (b5, .inr (0, [.ref yc, .int 0]))]) hP hD [1, 2] [0] rfl rfl (by decide) (by decide) hk1 hFc hP1 hD1
  have hK := (hK.sub (tys' := []) [] rfl).app hK1
  generalize H1 = H at hP hS ⊢
  have hP : va_P (dC, dI) vwCl [(a0, .inr (6, [.ref a1, .ref a2, .ref a3, .ref a4, .ref a5, .int (-1), .int 0])), (a5, .inr (5, [.ref h4, .ref b5, .int 0])), (b5, .inr (0, [.ref yc, .int 0]))] H := hP
  have hD : va_D A [(a0, .inr (6, [.ref a1, .ref a2, .ref a3, .ref a4, .ref a5, .int (-1), .int 0])), (a5, .inr (5, [.ref h4, .ref b5, .int 0])), (b5, .inr (0, [.ref yc, .int 0]))] := hD
  have hK : va_K (dC, dI) vwCl [] s := hK
  have hw : r1 = 0 := hw
  subst hw
  refine lv_istore_n (lv' := [(1, .int 0), (0, .ref a0)]) hx hb dX6_turn_7 rfl hl (by decide) rfl (fun ls hl => ?_)
  refine lv_iload_n hx hb dX6_turn_8 rfl (lv_at hl 0 rfl) ?_
  refine lv_if_ne (tgt := 15) hx hb dX6_turn_9 (by decide) (fun c_9 => absurd (rfl) c_9) (fun c_9 => ?_)
  refine lv_bipush (v := (-4)) hx hb dX6_turn_12 (by decide) ?_
  have hP9 := hP.sub (ws' := []) [] rfl
  have hD9 := hD.sub (ws' := []) [] (by decide) rfl
  have hK9 := hK.sub (tys' := []) [] rfl
  exact W.iret (v := (-4)) hx hb hr (fun t ht hW => ⟨⟨(-4), (), rfl, rfl, by rw [ht]; exact hP9, va_K.moved hW.alike hK9, hD9⟩, hS.F ht⟩) hS.2.2 dX6_turn_14

set_option maxHeartbeats 4000000 in
set_option maxRecDepth 100000 in
theorem c_X6_read (l : Launch) (dC : Nat → ClassId) (dI : Nat → Nat → Nat) (sz : Nat) (a0 : Nat) (a1 : Nat) (a2 : Nat) (a3 : Nat) (a4 : Nat) (a5 : Nat) (ya : Nat) (b2 : Nat) (t1 : Nat) (t2 : Nat) (t3 : Nat) (yb : Nat) (h1 : Nat) (h2 : Nat) (h3 : Nat) : Met l yX6_read pwX6_read ({ frames := 3, cells := 0, slots := 0, locals := 64 } : Room) (va_Pc [.ref a0] (fun U => U.heap.size = sz ∧ va_P (dC, dI) vwCl [(a0, .inr (6, [.ref a1, .ref a2, .ref a3, .ref a4, .ref a5, .int (-1), .int 0])), (a1, .inr (0, [.ref ya, .int 0])), (a2, .inr (3, [.ref b2, .ref t1, .ref t2, .ref t3, .int 0])), (b2, .inr (0, [.ref yb, .int 0])), (a3, .inr (1, [.ref h1, .ref h2, .ref h3, .int 0, .int 0, .int 0]))] U.heap ∧ va_K (dC, dI) vwCl [] U ∧ va_D (fun _ => True) [(a0, .inr (6, [.ref a1, .ref a2, .ref a3, .ref a4, .ref a5, .int (-1), .int 0])), (a1, .inr (0, [.ref ya, .int 0])), (a2, .inr (3, [.ref b2, .ref t1, .ref t2, .ref t3, .int 0])), (b2, .inr (0, [.ref yb, .int 0])), (a3, .inr (1, [.ref h1, .ref h2, .ref h3, .int 0, .int 0, .int 0]))])) (va_Qi (fun (r : Int32) (_ : Unit) => r = 1) (fun (_ : Unit) (t : State) => va_P (dC, dI) vwCl [] t.heap ∧ va_K (dC, dI) vwCl [] t ∧ va_D (va_A [(a0, .inr (6, [.ref a1, .ref a2, .ref a3, .ref a4, .ref a5, .int (-1), .int 0])), (a1, .inr (0, [.ref ya, .int 0])), (a2, .inr (3, [.ref b2, .ref t1, .ref t2, .ref t3, .int 0])), (b2, .inr (0, [.ref yb, .int 0])), (a3, .inr (1, [.ref h1, .ref h2, .ref h3, .int 0, .int 0, .int 0]))] sz) []) (va_A [(a0, .inr (6, [.ref a1, .ref a2, .ref a3, .ref a4, .ref a5, .int (-1), .int 0])), (a1, .inr (0, [.ref ya, .int 0])), (a2, .inr (3, [.ref b2, .ref t1, .ref t2, .ref t3, .int 0])), (b2, .inr (0, [.ref yb, .int 0])), (a3, .inr (1, [.ref h1, .ref h2, .ref h3, .int 0, .int 0, .int 0]))] sz)) 0 0 (va_A [(a0, .inr (6, [.ref a1, .ref a2, .ref a3, .ref a4, .ref a5, .int (-1), .int 0])), (a1, .inr (0, [.ref ya, .int 0])), (a2, .inr (3, [.ref b2, .ref t1, .ref t2, .ref t3, .int 0])), (b2, .inr (0, [.ref yb, .int 0])), (a3, .inr (1, [.ref h1, .ref h2, .ref h3, .int 0, .int 0, .int 0]))] sz) := by
  refine Met.ofW (cc := cX6_read) (maxL := 3) (ret := (some .int)) (by decide) rfl ?_
  intro p e s m args below meth c s₁ B hml hv
  obtain ⟨rfl, hsz, hP, hK, hD0⟩ := hv
  have hx := B.exec
  have hb := B.bytes
  have hr := B.returns
  have hts0 := atoms_spec (ws := pwX6_read) B.pre
  have hts := fun w (h : w ∈ pwAll) => hts0 w (List.mem_cons_of_mem _ h)
  have hown : s.vm.findClass RX6 = some m.cls := findClass_of_methodNamed B.named
  have hlocks := B.notSynchronized
  subst hsz
  have hD := hD0.self (sz := s.heap.size)
  generalize hAe : va_A [(a0, .inr (6, [.ref a1, .ref a2, .ref a3, .ref a4, .ref a5, .int (-1), .int 0])), (a1, .inr (0, [.ref ya, .int 0])), (a2, .inr (3, [.ref b2, .ref t1, .ref t2, .ref t3, .int 0])), (b2, .inr (0, [.ref yb, .int 0])), (a3, .inr (1, [.ref h1, .ref h2, .ref h3, .int 0, .int 0, .int 0]))] s.heap.size = A at hD ⊢
  have hA : ∀ q : Nat, s.heap.size ≤ q → A q := fun q h => by rw [← hAe]; exact Or.inr h
  have hS : va_S A s.heap s.heap [] := va_S.rf
  have hP : va_P (dC, dI) vwCl [(a0, .inr (6, [.ref a1, .ref a2, .ref a3, .ref a4, .ref a5, .int (-1), .int 0])), (a1, .inr (0, [.ref ya, .int 0])), (a2, .inr (3, [.ref b2, .ref t1, .ref t2, .ref t3, .int 0])), (b2, .inr (0, [.ref yb, .int 0])), (a3, .inr (1, [.ref h1, .ref h2, .ref h3, .int 0, .int 0, .int 0]))] s.heap := hP
  have hl := lv_entry ([.ref a0]) (n := 3) (Nat.le_of_ble_eq_true rfl)
  rw [lg_entry_eq]
  generalize (lg_sl ([.ref a0]) ++ List.replicate (3 - (lg_sl ([.ref a0])).length) Slot.unset).toArray = ls at hl ⊢
  have hl : lv_has ls 3 [(0, .ref a0)] := hl
  refine lv_aload_n hx hb dX6_read_0 rfl (lv_at hl 0 rfl) ?_
  refine va_get (D := (dC, dI)) (ci := 6) (v := .ref a2) (C := RX6) (T := TX6) (N := 7) hx hb hts inAll_6 hown hK hP 0 rfl rfl 1 (by decide) (hts (.fieldLink RX6 21 "LoopEnvelopes" "segments" "LLoopEnvelopes$Segments;") k_67) (fun _ h9 => h9) rfl dX6_read_1 ?_
  refine lv_aload_n hx hb dX6_read_4 rfl (lv_at hl 0 rfl) ?_
  refine va_get (D := (dC, dI)) (ci := 6) (v := .ref a1) (C := RX6) (T := TX6) (N := 7) hx hb hts inAll_6 hown hK hP 0 rfl rfl 0 (by decide) (hts (.fieldLink RX6 14 "LoopEnvelopes" "text" "LLoopEnvelopes$Bytes;") k_60) (fun _ h9 => h9) rfl dX6_read_5 ?_
  have hPc := hP.sub (ws' := [(a2, .inr (3, [.ref b2, .ref t1, .ref t2, .ref t3, .int 0])), (b2, .inr (0, [.ref yb, .int 0])), (a1, .inr (0, [.ref ya, .int 0]))]) [2, 3, 1] rfl
  have hDc := hD.sub (ws' := [(a2, .inr (3, [.ref b2, .ref t1, .ref t2, .ref t3, .int 0])), (b2, .inr (0, [.ref yb, .int 0])), (a1, .inr (0, [.ref ya, .int 0]))]) [2, 3, 1] (by decide) rfl
  have hKc := hK.sub (tys' := []) [] rfl
  have hFc := va_free (wc := [(a2, .inr (3, [.ref b2, .ref t1, .ref t2, .ref t3, .int 0])), (b2, .inr (0, [.ref yb, .int 0])), (a1, .inr (0, [.ref ya, .int 0]))]) hD hS hA [2, 3, 1] rfl
  refine va_callv (va_runV (As := [.ref a1]) (rest := []) ⟨hx, hb, hml, hown, hts⟩ (c_X3_take l dC dI s.heap.size a2 b2 t1 t2 t3 yb a1 ya) (cwV 1 hts gg_RX6_79 rfl rfl rfl (by decide +kernel) ⟨Nat.le_of_ble_eq_true rfl, Nat.le_of_ble_eq_true rfl⟩) ⟨fun a U g mk q => by obtain ⟨q0, q1, qP, qK, qD⟩ := q; exact ⟨q0, q1, qP, va_K.moved (u := U) (U := U.calling g mk a) (Vm.Alike.refl U.vm) qK, qD⟩, va_recv hK hP (ci := 3) (q0 := 2) rfl rfl, fun U hU hW => ⟨rfl, by rw [hU], by rw [hU]; exact hPc, va_K.moved hW.alike hKc, hDc.weaken (fun _ _ _ _ => trivial)⟩⟩ rfl rfl hl.1 rfl (lv_room (Nat.le_of_ble_eq_true rfl)) dX6_read_8 ⟨Nat.le_of_ble_eq_true rfl, Nat.le_of_ble_eq_true rfl⟩) hS (fun q _ h => hFc q h) hFc (fun u t H1 locs ht hvm hw hB hz1 hk1 hS => ?_)
  obtain ⟨hP1, hK1, hD1⟩ := hB
  rw [ht] at hP1
  have hK1 := va_K.moved hvm.symm hK1
  obtain ⟨hP, hD⟩ := va_join (wr := [(a0, .inr (6, [.ref a1, .ref a2, .ref a3, .ref a4, .ref a5, .int (-1), .int 0])), (a3, .inr (1, [.ref h1, .ref h2, .ref h3, .int 0, .int 0, .int 0]))]) (w1 := [(a2, .inr (3, [.ref b2, .ref t1, .ref t2, .ref t3, .int 0])), (b2, .inr (0, [.ref yb, .int 0])), (a1, .inr (0, [.ref ya, .int 0]))]) hP hD [2, 3, 1] [0, 4] rfl rfl (by decide) (by decide) hk1 hFc hP1 hD1
  have hK := (hK.sub (tys' := []) [] rfl).app hK1
  generalize H1 = H at hP hS ⊢
  have hP : va_P (dC, dI) vwCl [(a0, .inr (6, [.ref a1, .ref a2, .ref a3, .ref a4, .ref a5, .int (-1), .int 0])), (a3, .inr (1, [.ref h1, .ref h2, .ref h3, .int 0, .int 0, .int 0])), (a2, .inr (3, [.ref b2, .ref t1, .ref t2, .ref t3, .int 0])), (b2, .inr (0, [.ref yb, .int 0])), (a1, .inr (0, [.ref ya, .int 0]))] H := hP
  have hD : va_D A [(a0, .inr (6, [.ref a1, .ref a2, .ref a3, .ref a4, .ref a5, .int (-1), .int 0])), (a3, .inr (1, [.ref h1, .ref h2, .ref h3, .int 0, .int 0, .int 0])), (a2, .inr (3, [.ref b2, .ref t1, .ref t2, .ref t3, .int 0])), (b2, .inr (0, [.ref yb, .int 0])), (a1, .inr (0, [.ref ya, .int 0]))] := hD
  have hK : va_K (dC, dI) vwCl [] s := hK
  refine lv_aload_n hx hb dX6_read_11 rfl (lv_at hl 0 rfl) ?_
  refine va_get (D := (dC, dI)) (ci := 6) (v := .ref a3) (C := RX6) (T := TX6) (N := 7) hx hb hts inAll_6 hown hK hP 0 rfl rfl 2 (by decide) (hts (.fieldLink RX6 30 "LoopEnvelopes" "frames" "LLoopEnvelopes$Frames;") k_74) (fun _ h9 => h9) rfl dX6_read_12 ?_
  have hPc := hP.sub (ws' := [(a3, .inr (1, [.ref h1, .ref h2, .ref h3, .int 0, .int 0, .int 0]))]) [1] rfl
  have hDc := hD.sub (ws' := [(a3, .inr (1, [.ref h1, .ref h2, .ref h3, .int 0, .int 0, .int 0]))]) [1] (by decide) rfl
  have hKc := hK.sub (tys' := []) [] rfl
  have hFc := va_free (wc := [(a3, .inr (1, [.ref h1, .ref h2, .ref h3, .int 0, .int 0, .int 0]))]) hD hS hA [1] rfl
  refine va_callv (va_runV (As := []) (rest := []) ⟨hx, hb, hml, hown, hts⟩ (c_X1_clear l dC dI H.size a3 h1 h2 h3) (cwV 0 hts gg_RX6_83 rfl rfl rfl (by decide +kernel) ⟨Nat.le_of_ble_eq_true rfl, Nat.le_of_ble_eq_true rfl⟩) ⟨fun a U g mk q => by obtain ⟨q0, q1, qP, qK, qD⟩ := q; exact ⟨q0, q1, qP, va_K.moved (u := U) (U := U.calling g mk a) (Vm.Alike.refl U.vm) qK, qD⟩, va_recv hK hP (ci := 1) (q0 := 1) rfl rfl, fun U hU hW => ⟨rfl, by rw [hU], by rw [hU]; exact hPc, va_K.moved hW.alike hKc, hDc.weaken (fun _ _ _ _ => trivial)⟩⟩ rfl rfl hl.1 rfl (lv_room (Nat.le_of_ble_eq_true rfl)) dX6_read_15 ⟨Nat.le_of_ble_eq_true rfl, Nat.le_of_ble_eq_true rfl⟩) hS (fun q _ h => hFc q h) hFc (fun u t H1 locs ht hvm hw hB hz1 hk1 hS => ?_)
  obtain ⟨hP1, hK1, hD1⟩ := hB
  rw [ht] at hP1
  have hK1 := va_K.moved hvm.symm hK1
  obtain ⟨hP, hD⟩ := va_join (wr := [(a0, .inr (6, [.ref a1, .ref a2, .ref a3, .ref a4, .ref a5, .int (-1), .int 0])), (a2, .inr (3, [.ref b2, .ref t1, .ref t2, .ref t3, .int 0])), (b2, .inr (0, [.ref yb, .int 0])), (a1, .inr (0, [.ref ya, .int 0]))]) (w1 := [(a3, .inr (1, [.ref h1, .ref h2, .ref h3, .int 0, .int 0, .int 0]))]) hP hD [1] [0, 2, 3, 4] rfl rfl (by decide) (by decide) hk1 hFc hP1 hD1
  have hK := (hK.sub (tys' := []) [] rfl).app hK1
  generalize H1 = H at hP hS ⊢
  have hP : va_P (dC, dI) vwCl [(a0, .inr (6, [.ref a1, .ref a2, .ref a3, .ref a4, .ref a5, .int (-1), .int 0])), (a2, .inr (3, [.ref b2, .ref t1, .ref t2, .ref t3, .int 0])), (b2, .inr (0, [.ref yb, .int 0])), (a1, .inr (0, [.ref ya, .int 0])), (a3, .inr (1, [.ref h1, .ref h2, .ref h3, .int 0, .int 0, .int 0]))] H := hP
  have hD : va_D A [(a0, .inr (6, [.ref a1, .ref a2, .ref a3, .ref a4, .ref a5, .int (-1), .int 0])), (a2, .inr (3, [.ref b2, .ref t1, .ref t2, .ref t3, .int 0])), (b2, .inr (0, [.ref yb, .int 0])), (a1, .inr (0, [.ref ya, .int 0])), (a3, .inr (1, [.ref h1, .ref h2, .ref h3, .int 0, .int 0, .int 0]))] := hD
  have hK : va_K (dC, dI) vwCl [] s := hK
  refine lv_aload_n hx hb dX6_read_18 rfl (lv_at hl 0 rfl) ?_
  refine lv_iconst (v := (-1)) hx hb dX6_read_19 (by decide) ?_
  refine va_put (D := (dC, dI)) (ci := 6) (v := .int (-1)) (ty := .int) (C := RX6) (T := TX6) (N := 7) hx hb hts inAll_6 tyX6 tyX6_ok nmX6 hown hK hP hD hS 0 rfl rfl 5 (by decide) (hts (.fieldLink RX6 50 "LoopEnvelopes" "place" "I") k_89) (fun _ h9 => h9) rfl (by decide +kernel) rfl rfl (Nat.le_of_ble_eq_true rfl) dX6_read_20 (fun H locs hP hD hS => ?_)
  have hP : va_P (dC, dI) vwCl [(a0, .inr (6, [.ref a1, .ref a2, .ref a3, .ref a4, .ref a5, .int (-1), .int 0])), (a2, .inr (3, [.ref b2, .ref t1, .ref t2, .ref t3, .int 0])), (b2, .inr (0, [.ref yb, .int 0])), (a1, .inr (0, [.ref ya, .int 0])), (a3, .inr (1, [.ref h1, .ref h2, .ref h3, .int 0, .int 0, .int 0]))] H := hP
  have hD : va_D A [(a0, .inr (6, [.ref a1, .ref a2, .ref a3, .ref a4, .ref a5, .int (-1), .int 0])), (a2, .inr (3, [.ref b2, .ref t1, .ref t2, .ref t3, .int 0])), (b2, .inr (0, [.ref yb, .int 0])), (a1, .inr (0, [.ref ya, .int 0])), (a3, .inr (1, [.ref h1, .ref h2, .ref h3, .int 0, .int 0, .int 0]))] := hD
  refine lv_aload_n hx hb dX6_read_23 rfl (lv_at hl 0 rfl) ?_
  refine va_get (D := (dC, dI)) (ci := 6) (v := .ref a2) (C := RX6) (T := TX6) (N := 7) hx hb hts inAll_6 hown hK hP 0 rfl rfl 1 (by decide) (hts (.fieldLink RX6 21 "LoopEnvelopes" "segments" "LLoopEnvelopes$Segments;") k_67) (fun _ h9 => h9) rfl dX6_read_24 ?_
  have hPc := hP.sub (ws' := [(a2, .inr (3, [.ref b2, .ref t1, .ref t2, .ref t3, .int 0])), (b2, .inr (0, [.ref yb, .int 0]))]) [1, 2] rfl
  have hDc := hD.sub (ws' := [(a2, .inr (3, [.ref b2, .ref t1, .ref t2, .ref t3, .int 0])), (b2, .inr (0, [.ref yb, .int 0]))]) [1, 2] (by decide) rfl
  have hKc := hK.sub (tys' := []) [] rfl
  have hFc := va_free (wc := [(a2, .inr (3, [.ref b2, .ref t1, .ref t2, .ref t3, .int 0])), (b2, .inr (0, [.ref yb, .int 0]))]) hD hS hA [1, 2] rfl
  refine va_calli (va_runV (As := []) (rest := []) ⟨hx, hb, hml, hown, hts⟩ (c_X3_opens l dC dI H.size a2 b2 t1 t2 t3 yb) (cwV 0 hts gg_RX6_86 rfl rfl rfl (by decide +kernel) ⟨Nat.le_of_ble_eq_true rfl, Nat.le_of_ble_eq_true rfl⟩) ⟨fun a U g mk q => by obtain ⟨q0, q1, qP, qK, qD⟩ := q; exact ⟨q0, q1, qP, va_K.moved (u := U) (U := U.calling g mk a) (Vm.Alike.refl U.vm) qK, qD⟩, va_recv hK hP (ci := 3) (q0 := 1) rfl rfl, fun U hU hW => ⟨rfl, by rw [hU], by rw [hU]; exact hPc, va_K.moved hW.alike hKc, hDc.weaken (fun _ _ _ _ => trivial)⟩⟩ rfl rfl hl.1 rfl (lv_room (Nat.le_of_ble_eq_true rfl)) dX6_read_27 ⟨Nat.le_of_ble_eq_true rfl, Nat.le_of_ble_eq_true rfl⟩) hS (fun q _ h => hFc q h) hFc (fun r3 u t H1 locs ht hvm hw hB hz1 hk1 hS => ?_)
  obtain ⟨hP1, hK1, hD1⟩ := hB
  rw [ht] at hP1
  have hK1 := va_K.moved hvm.symm hK1
  obtain ⟨hP, hD⟩ := va_join (wr := [(a0, .inr (6, [.ref a1, .ref a2, .ref a3, .ref a4, .ref a5, .int (-1), .int 0])), (a1, .inr (0, [.ref ya, .int 0])), (a3, .inr (1, [.ref h1, .ref h2, .ref h3, .int 0, .int 0, .int 0]))]) (w1 := [(a2, .inr (3, [.ref b2, .ref t1, .ref t2, .ref t3, .int 0])), (b2, .inr (0, [.ref yb, .int 0]))]) hP hD [1, 2] [0, 3, 4] rfl rfl (by decide) (by decide) hk1 hFc hP1 hD1
  have hK := (hK.sub (tys' := []) [] rfl).app hK1
  generalize H1 = H at hP hS ⊢
  have hP : va_P (dC, dI) vwCl [(a0, .inr (6, [.ref a1, .ref a2, .ref a3, .ref a4, .ref a5, .int (-1), .int 0])), (a1, .inr (0, [.ref ya, .int 0])), (a3, .inr (1, [.ref h1, .ref h2, .ref h3, .int 0, .int 0, .int 0])), (a2, .inr (3, [.ref b2, .ref t1, .ref t2, .ref t3, .int 0])), (b2, .inr (0, [.ref yb, .int 0]))] H := hP
  have hD : va_D A [(a0, .inr (6, [.ref a1, .ref a2, .ref a3, .ref a4, .ref a5, .int (-1), .int 0])), (a1, .inr (0, [.ref ya, .int 0])), (a3, .inr (1, [.ref h1, .ref h2, .ref h3, .int 0, .int 0, .int 0])), (a2, .inr (3, [.ref b2, .ref t1, .ref t2, .ref t3, .int 0])), (b2, .inr (0, [.ref yb, .int 0]))] := hD
  have hK : va_K (dC, dI) vwCl [] s := hK
  have hw : r3 = 0 := hw
  subst hw
  refine lv_if_eq (tgt := 40) hx hb dX6_read_30 (by decide) (fun c_30 => ?_) (fun c_30 => absurd (rfl) c_30)
  refine lv_aload_n hx hb dX6_read_40 rfl (lv_at hl 0 rfl) ?_
  refine lv_iconst (v := 1) hx hb dX6_read_41 (by decide) ?_
  refine lv_iconst (v := 0) hx hb dX6_read_42 (by decide) ?_
  have hPc := hP.sub (ws' := [(a0, .inr (6, [.ref a1, .ref a2, .ref a3, .ref a4, .ref a5, .int (-1), .int 0]))]) [0] rfl
  have hDc := hD.sub (ws' := [(a0, .inr (6, [.ref a1, .ref a2, .ref a3, .ref a4, .ref a5, .int (-1), .int 0]))]) [0] (by decide) rfl
  have hKc := hK.sub (tys' := []) [] rfl
  have hFc := va_free (wc := [(a0, .inr (6, [.ref a1, .ref a2, .ref a3, .ref a4, .ref a5, .int (-1), .int 0]))]) hD hS hA [0] rfl
  refine va_calli (va_runV (As := [.int 1, .int 0]) (rest := []) ⟨hx, hb, hml, hown, hts⟩ (c_X6_tell l dC dI H.size a0 a1 a2 a3 a4 a5 1 0) (cwV 2 hts gg_RX6_93 rfl rfl rfl (by decide +kernel) ⟨Nat.le_of_ble_eq_true rfl, Nat.le_of_ble_eq_true rfl⟩) ⟨fun a U g mk q => by obtain ⟨q0, q1, qP, qK, qD⟩ := q; exact ⟨q0, q1, qP, va_K.moved (u := U) (U := U.calling g mk a) (Vm.Alike.refl U.vm) qK, qD⟩, va_recv hK hP (ci := 6) (q0 := 0) rfl rfl, fun U hU hW => ⟨rfl, by rw [hU], by rw [hU]; exact hPc, va_K.moved hW.alike hKc, hDc.weaken (fun _ _ _ _ => trivial)⟩⟩ rfl rfl hl.1 rfl (lv_room (Nat.le_of_ble_eq_true rfl)) dX6_read_43 ⟨Nat.le_of_ble_eq_true rfl, Nat.le_of_ble_eq_true rfl⟩) hS (fun q _ h => hFc q h) hFc (fun r4 u t H1 locs ht hvm hw hB hz1 hk1 hS => ?_)
  obtain ⟨hP1, hK1, hD1⟩ := hB
  rw [ht] at hP1
  have hK1 := va_K.moved hvm.symm hK1
  obtain ⟨hP, hD⟩ := va_join (wr := [(a1, .inr (0, [.ref ya, .int 0])), (a3, .inr (1, [.ref h1, .ref h2, .ref h3, .int 0, .int 0, .int 0])), (a2, .inr (3, [.ref b2, .ref t1, .ref t2, .ref t3, .int 0])), (b2, .inr (0, [.ref yb, .int 0]))]) (w1 := [(a0, .inr (6, [.ref a1, .ref a2, .ref a3, .ref a4, .ref a5, .int 0, .int 0]))]) hP hD [0] [1, 2, 3, 4] rfl rfl (by decide) (by decide) hk1 hFc hP1 hD1
  have hK := (hK.sub (tys' := []) [] rfl).app hK1
  generalize H1 = H at hP hS ⊢
  have hP : va_P (dC, dI) vwCl [(a1, .inr (0, [.ref ya, .int 0])), (a3, .inr (1, [.ref h1, .ref h2, .ref h3, .int 0, .int 0, .int 0])), (a2, .inr (3, [.ref b2, .ref t1, .ref t2, .ref t3, .int 0])), (b2, .inr (0, [.ref yb, .int 0])), (a0, .inr (6, [.ref a1, .ref a2, .ref a3, .ref a4, .ref a5, .int 0, .int 0]))] H := hP
  have hD : va_D A [(a1, .inr (0, [.ref ya, .int 0])), (a3, .inr (1, [.ref h1, .ref h2, .ref h3, .int 0, .int 0, .int 0])), (a2, .inr (3, [.ref b2, .ref t1, .ref t2, .ref t3, .int 0])), (b2, .inr (0, [.ref yb, .int 0])), (a0, .inr (6, [.ref a1, .ref a2, .ref a3, .ref a4, .ref a5, .int 0, .int 0]))] := hD
  have hK : va_K (dC, dI) vwCl [] s := hK
  have hw : r4 = 1 := hw
  subst hw
  refine lv_istore_n (lv' := [(1, .int 1), (0, .ref a0)]) hx hb dX6_read_46 rfl hl (by decide) rfl (fun ls hl => ?_)
  refine lv_aload_n hx hb dX6_read_47 rfl (lv_at hl 1 rfl) ?_
  refine lv_iload_n hx hb dX6_read_48 rfl (lv_at hl 0 rfl) ?_
  refine lv_if_ne (tgt := 56) hx hb dX6_read_49 (by decide) (fun c_49 => ?_) (fun c_49 => absurd c_49 (by decide))
  refine lv_iconst (v := 0) hx hb dX6_read_56 (by decide) ?_
  refine va_put (D := (dC, dI)) (ci := 6) (v := .int 0) (ty := .boolean) (C := RX6) (T := TX6) (N := 7) hx hb hts inAll_6 tyX6 tyX6_ok nmX6 hown hK hP hD hS 4 rfl rfl 6 (by decide) (hts (.fieldLink RX6 54 "LoopEnvelopes" "taken" "Z") k_90) (fun _ h9 => h9) rfl (by decide +kernel) rfl rfl (Nat.le_of_ble_eq_true rfl) dX6_read_57 (fun H locs hP hD hS => ?_)
  have hP : va_P (dC, dI) vwCl [(a1, .inr (0, [.ref ya, .int 0])), (a3, .inr (1, [.ref h1, .ref h2, .ref h3, .int 0, .int 0, .int 0])), (a2, .inr (3, [.ref b2, .ref t1, .ref t2, .ref t3, .int 0])), (b2, .inr (0, [.ref yb, .int 0])), (a0, .inr (6, [.ref a1, .ref a2, .ref a3, .ref a4, .ref a5, .int 0, .int 0]))] H := hP
  have hD : va_D A [(a1, .inr (0, [.ref ya, .int 0])), (a3, .inr (1, [.ref h1, .ref h2, .ref h3, .int 0, .int 0, .int 0])), (a2, .inr (3, [.ref b2, .ref t1, .ref t2, .ref t3, .int 0])), (b2, .inr (0, [.ref yb, .int 0])), (a0, .inr (6, [.ref a1, .ref a2, .ref a3, .ref a4, .ref a5, .int 0, .int 0]))] := hD
  refine lv_iconst (v := 0) hx hb dX6_read_60 (by decide) ?_
  refine lv_istore_n (lv' := [(2, .int 0), (1, .int 1), (0, .ref a0)]) hx hb dX6_read_61 rfl hl (by decide) rfl (fun ls hl => ?_)
  refine lv_aload_n hx hb dX6_read_62 rfl (lv_at hl 2 rfl) ?_
  refine va_get (D := (dC, dI)) (ci := 6) (v := .int 0) (C := RX6) (T := TX6) (N := 7) hx hb hts inAll_6 hown hK hP 4 rfl rfl 6 (by decide) (hts (.fieldLink RX6 54 "LoopEnvelopes" "taken" "Z") k_90) (fun _ h9 => h9) rfl dX6_read_63 ?_
  refine lv_if_eq (tgt := 94) hx hb dX6_read_66 (by decide) (fun c_66 => ?_) (fun c_66 => absurd (rfl) c_66)
  refine lv_iload_n hx hb dX6_read_94 rfl (lv_at hl 1 rfl) ?_
  have hP9 := hP.sub (ws' := []) [] rfl
  have hD9 := hD.sub (ws' := []) [] (by decide) rfl
  have hK9 := hK.sub (tys' := []) [] rfl
  exact W.iret (v := 1) hx hb hr (fun t ht hW => ⟨⟨1, (), rfl, rfl, by rw [ht]; exact hP9, va_K.moved hW.alike hK9, hD9⟩, hS.F ht⟩) hS.2.2 dX6_read_95
