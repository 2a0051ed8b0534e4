set_option maxHeartbeats 4000000 in
set_option maxRecDepth 100000 in
/-- length() -/
theorem c_X0_length (l : Launch) (dC : Nat → ClassId) (dI : Nat → Nat → Nat) (sz : Nat) (a0 : Nat) (ya : Nat) (u : Int32) : Met l yX0_length pwX0_length ({ frames := 0, cells := 0, slots := 0, locals := 0 } : Room) (va_Pc [.ref a0] (fun U => U.heap.size = sz ∧ va_P (dC, dI) vwCl [(a0, .inr (0, [.ref ya, .int u]))] U.heap ∧ va_K (dC, dI) vwCl [] U ∧ va_D (fun _ => True) [(a0, .inr (0, [.ref ya, .int u]))])) (va_Qi (fun (r : Int32) (_ : Unit) => r = u) (fun (_ : Unit) (t : State) => va_P (dC, dI) vwCl [(a0, .inr (0, [.ref ya, .int u]))] t.heap ∧ va_K (dC, dI) vwCl [] t ∧ va_D (va_A [(a0, .inr (0, [.ref ya, .int u]))] sz) [(a0, .inr (0, [.ref ya, .int u]))]) (va_A [(a0, .inr (0, [.ref ya, .int u]))] sz)) 0 0 (va_A [(a0, .inr (0, [.ref ya, .int u]))] sz) := by
  refine Met.ofW (cc := cX0_length) (maxL := 1) (ret := (some .int)) (by decide) rfl ?_
  intro p e s m args below meth c s₁ B hml hv
  obtain ⟨rfl, hsz, hP, hK, hD0⟩ := hv
  have hx := B.exec
  have hb := B.bytes
  have hr := B.returns
  have hts0 := atoms_spec (ws := pwX0_length) B.pre
  have hts := fun w (h : w ∈ pwAll) => hts0 w (List.mem_cons_of_mem _ h)
  have hown : s.vm.findClass RX0 = some m.cls := findClass_of_methodNamed B.named
  have hlocks := B.notSynchronized
  subst hsz
  have hD := hD0.self (sz := s.heap.size)
  generalize hAe : va_A [(a0, .inr (0, [.ref ya, .int u]))] s.heap.size = A at hD ⊢
  have hA : ∀ q : Nat, s.heap.size ≤ q → A q := fun q h => by rw [← hAe]; exact Or.inr h
  have hS : va_S A s.heap s.heap [] := va_S.rf
  have hP : va_P (dC, dI) vwCl [(a0, .inr (0, [.ref ya, .int u]))] s.heap := hP
  have hl := lv_entry ([.ref a0]) (n := 1) (Nat.le_of_ble_eq_true rfl)
  rw [lg_entry_eq]
  generalize (lg_sl ([.ref a0]) ++ List.replicate (1 - (lg_sl ([.ref a0])).length) Slot.unset).toArray = ls at hl ⊢
  have hl : lv_has ls 1 [(0, .ref a0)] := hl
  refine lv_aload_n hx hb dX0_length_0 rfl (lv_at hl 0 rfl) ?_
  refine va_get (D := (dC, dI)) (ci := 0) (v := .int u) (C := RX0) (T := TX0) (N := 2) hx hb hts inAll_0 hown hK hP 0 rfl rfl 1 (by decide) (hts (.fieldLink RX0 21 "LoopEnvelopes$Bytes" "used" "I") k_9) (fun _ h9 => h9) rfl dX0_length_1 ?_
  have hP9 := hP.sub (ws' := [(a0, .inr (0, [.ref ya, .int u]))]) [0] rfl
  have hD9 := hD.sub (ws' := [(a0, .inr (0, [.ref ya, .int u]))]) [0] (by decide) rfl
  have hK9 := hK.sub (tys' := []) [] rfl
  exact W.iret (v := u) hx hb hr (fun t ht hW => ⟨⟨u, (), rfl, rfl, by rw [ht]; exact hP9, va_K.moved hW.alike hK9, hD9⟩, hS.F ht⟩) hS.2.2 dX0_length_4

set_option maxHeartbeats 4000000 in
set_option maxRecDepth 100000 in
/-- at(i) of none -/
theorem c_X0_at0 (l : Launch) (dC : Nat → ClassId) (dI : Nat → Nat → Nat) (sz : Nat) (a0 : Nat) (ya : Nat) (ix : Int32) : Met l yX0_at pwX0_at ({ frames := 0, cells := 0, slots := 0, locals := 0 } : Room) (va_Pc [.ref a0, .int ix] (fun U => U.heap.size = sz ∧ va_P (dC, dI) vwCl [(a0, .inr (0, [.ref ya, .int 0]))] U.heap ∧ va_K (dC, dI) vwCl [] U ∧ va_D (fun _ => True) [(a0, .inr (0, [.ref ya, .int 0]))])) (va_Qi (fun (r : Int32) (_ : Unit) => r = (-1)) (fun (_ : Unit) (t : State) => va_P (dC, dI) vwCl [(a0, .inr (0, [.ref ya, .int 0]))] t.heap ∧ va_K (dC, dI) vwCl [] t ∧ va_D (va_A [(a0, .inr (0, [.ref ya, .int 0]))] sz) [(a0, .inr (0, [.ref ya, .int 0]))]) (va_A [(a0, .inr (0, [.ref ya, .int 0]))] sz)) 0 0 (va_A [(a0, .inr (0, [.ref ya, .int 0]))] sz) := by
  refine Met.ofW (cc := cX0_at) (maxL := 2) (ret := (some .int)) (by decide) rfl ?_
  intro p e s m args below meth c s₁ B hml hv
  obtain ⟨rfl, hsz, hP, hK, hD0⟩ := hv
  have hx := B.exec
  have hb := B.bytes
  have hr := B.returns
  have hts0 := atoms_spec (ws := pwX0_at) B.pre
  have hts := fun w (h : w ∈ pwAll) => hts0 w (List.mem_cons_of_mem _ h)
  have hown : s.vm.findClass RX0 = some m.cls := findClass_of_methodNamed B.named
  have hlocks := B.notSynchronized
  subst hsz
  have hD := hD0.self (sz := s.heap.size)
  generalize hAe : va_A [(a0, .inr (0, [.ref ya, .int 0]))] s.heap.size = A at hD ⊢
  have hA : ∀ q : Nat, s.heap.size ≤ q → A q := fun q h => by rw [← hAe]; exact Or.inr h
  have hS : va_S A s.heap s.heap [] := va_S.rf
  have hP : va_P (dC, dI) vwCl [(a0, .inr (0, [.ref ya, .int 0]))] s.heap := hP
  have hl := lv_entry ([.ref a0, .int ix]) (n := 2) (Nat.le_of_ble_eq_true rfl)
  rw [lg_entry_eq]
  generalize (lg_sl ([.ref a0, .int ix]) ++ List.replicate (2 - (lg_sl ([.ref a0, .int ix])).length) Slot.unset).toArray = ls at hl ⊢
  have hl : lv_has ls 2 [(0, .ref a0), (1, .int ix)] := hl
  refine lv_iload_n hx hb dX0_at_0 rfl (lv_at hl 1 rfl) ?_
  refine lv_if_lt (tgt := 21) hx hb dX0_at_1 (by decide) (fun c_1 => ?_) (fun c_1 => ?_)
  · skip
    refine lv_iconst (v := (-1)) hx hb dX0_at_21 (by decide) ?_
    refine lv_goto (tgt := 35) hx hb dX0_at_22 (by decide) ?_
    have hP9 := hP.sub (ws' := [(a0, .inr (0, [.ref ya, .int 0]))]) [0] rfl
    have hD9 := hD.sub (ws' := [(a0, .inr (0, [.ref ya, .int 0]))]) [0] (by decide) rfl
    have hK9 := hK.sub (tys' := []) [] rfl
    exact W.iret (v := (-1)) hx hb hr (fun t ht hW => ⟨⟨(-1), (), rfl, rfl, by rw [ht]; exact hP9, va_K.moved hW.alike hK9, hD9⟩, hS.F ht⟩) hS.2.2 dX0_at_35
  · skip
    refine lv_iload_n hx hb dX0_at_4 rfl (lv_at hl 1 rfl) ?_
    refine lv_aload_n hx hb dX0_at_5 rfl (lv_at hl 0 rfl) ?_
    refine va_get (D := (dC, dI)) (ci := 0) (v := .int 0) (C := RX0) (T := TX0) (N := 2) hx hb hts inAll_0 hown hK hP 0 rfl rfl 1 (by decide) (hts (.fieldLink RX0 21 "LoopEnvelopes$Bytes" "used" "I") k_9) (fun _ h9 => h9) rfl dX0_at_6 ?_
    refine lv_icmp_ge (tgt := 21) hx hb dX0_at_9 (by decide) (fun c_9 => ?_) (fun c_9 => absurd (Int32.not_lt.mp c_1) c_9)
    refine lv_iconst (v := (-1)) hx hb dX0_at_21 (by decide) ?_
    refine lv_goto (tgt := 35) hx hb dX0_at_22 (by decide) ?_
    have hP9 := hP.sub (ws' := [(a0, .inr (0, [.ref ya, .int 0]))]) [0] rfl
    have hD9 := hD.sub (ws' := [(a0, .inr (0, [.ref ya, .int 0]))]) [0] (by decide) rfl
    have hK9 := hK.sub (tys' := []) [] rfl
    exact W.iret (v := (-1)) hx hb hr (fun t ht hW => ⟨⟨(-1), (), rfl, rfl, by rw [ht]; exact hP9, va_K.moved hW.alike hK9, hD9⟩, hS.F ht⟩) hS.2.2 dX0_at_35

set_option maxHeartbeats 4000000 in
set_option maxRecDepth 100000 in
/-- append(b), where there is room -/
theorem c_X0_append (l : Launch) (dC : Nat → ClassId) (dI : Nat → Nat → Nat) (sz : Nat) (a0 : Nat) (ya : Nat) (cA : ClassId) (f0 : (Nat → Int32)) (j : Nat) (bb : Int32) (g1 : j < 1200) : Met l yX0_append pwX0_append ({ frames := 0, cells := 0, slots := 0, locals := 0 } : Room) (va_Pc [.ref a0, .int bb] (fun U => U.heap.size = sz ∧ va_P (dC, dI) vwCl [(a0, .inr (0, [.ref ya, .int (nI j)])), (ya, .inl (cA, 1200, .inl f0))] U.heap ∧ va_K (dC, dI) vwCl [(cA, .byte)] U ∧ va_D (fun _ => True) [(a0, .inr (0, [.ref ya, .int (nI j)])), (ya, .inl (cA, 1200, .inl f0))])) (va_Qi (fun (r : Int32) (_ : Unit) => r = 1) (fun (_ : Unit) (t : State) => ∃ (fz : Nat → Int32), va_P (dC, dI) vwCl [(a0, .inr (0, [.ref ya, .int (nI (j + 1))])), (ya, .inl (cA, 1200, .inl fz))] t.heap ∧ va_K (dC, dI) vwCl [(cA, .byte)] t ∧ va_D (va_A [(a0, .inr (0, [.ref ya, .int (nI j)])), (ya, .inl (cA, 1200, .inl f0))] sz) [(a0, .inr (0, [.ref ya, .int (nI (j + 1))])), (ya, .inl (cA, 1200, .inl fz))]) (va_A [(a0, .inr (0, [.ref ya, .int (nI j)])), (ya, .inl (cA, 1200, .inl f0))] sz)) 0 0 (va_A [(a0, .inr (0, [.ref ya, .int (nI j)])), (ya, .inl (cA, 1200, .inl f0))] sz) := by
  refine Met.ofW (cc := cX0_append) (maxL := 2) (ret := (some .boolean)) (by decide) rfl ?_
  intro p e s m args below meth c s₁ B hml hv
  obtain ⟨rfl, hsz, hP, hK, hD0⟩ := hv
  have hx := B.exec
  have hb := B.bytes
  have hr := B.returns
  have hts0 := atoms_spec (ws := pwX0_append) B.pre
  have hts := fun w (h : w ∈ pwAll) => hts0 w (List.mem_cons_of_mem _ h)
  have hown : s.vm.findClass RX0 = some m.cls := findClass_of_methodNamed B.named
  have hlocks := B.notSynchronized
  subst hsz
  have hD := hD0.self (sz := s.heap.size)
  generalize hAe : va_A [(a0, .inr (0, [.ref ya, .int (nI j)])), (ya, .inl (cA, 1200, .inl f0))] s.heap.size = A at hD ⊢
  have hA : ∀ q : Nat, s.heap.size ≤ q → A q := fun q h => by rw [← hAe]; exact Or.inr h
  have hS : va_S A s.heap s.heap [] := va_S.rf
  have hP : va_P (dC, dI) vwCl [(a0, .inr (0, [.ref ya, .int (nI j)])), (ya, .inl (cA, 1200, .inl f0))] s.heap := hP
  have hl := lv_entry ([.ref a0, .int bb]) (n := 2) (Nat.le_of_ble_eq_true rfl)
  rw [lg_entry_eq]
  generalize (lg_sl ([.ref a0, .int bb]) ++ List.replicate (2 - (lg_sl ([.ref a0, .int bb])).length) Slot.unset).toArray = ls at hl ⊢
  have hl : lv_has ls 2 [(0, .ref a0), (1, .int bb)] := hl
  refine lv_aload_n hx hb dX0_append_0 rfl (lv_at hl 0 rfl) ?_
  refine va_get (D := (dC, dI)) (ci := 0) (v := .int (nI j)) (C := RX0) (T := TX0) (N := 2) hx hb hts inAll_0 hown hK hP 0 rfl rfl 1 (by decide) (hts (.fieldLink RX0 21 "LoopEnvelopes$Bytes" "used" "I") k_9) (fun _ h9 => h9) rfl dX0_append_1 ?_
  refine lv_if_lt (tgt := 19) hx hb dX0_append_4 (by decide) (fun c_4 => absurd c_4 (nI_pos (by omega))) (fun c_4 => ?_)
  refine lv_aload_n hx hb dX0_append_7 rfl (lv_at hl 0 rfl) ?_
  refine va_get (D := (dC, dI)) (ci := 0) (v := .int (nI j)) (C := RX0) (T := TX0) (N := 2) hx hb hts inAll_0 hown hK hP 0 rfl rfl 1 (by decide) (hts (.fieldLink RX0 21 "LoopEnvelopes$Bytes" "used" "I") k_9) (fun _ h9 => h9) rfl dX0_append_8 ?_
  refine lv_aload_n hx hb dX0_append_11 rfl (lv_at hl 0 rfl) ?_
  refine va_get (D := (dC, dI)) (ci := 0) (v := .ref ya) (C := RX0) (T := TX0) (N := 2) hx hb hts inAll_0 hown hK hP 0 rfl rfl 0 (by decide) (hts (.fieldLink RX0 15 "LoopEnvelopes$Bytes" "cells" "[B") k_8) (fun _ h9 => h9) rfl dX0_append_12 ?_
  refine va_alen hx hb hK hP 1 0 rfl rfl (v := nI 1200) rfl dX0_append_15 ?_
  refine lv_icmp_lt (tgt := 21) hx hb dX0_append_16 (by decide) (fun c_16 => ?_) (fun c_16 => absurd (nI_lt g1 (by decide)) c_16)
  refine lv_aload_n hx hb dX0_append_21 rfl (lv_at hl 0 rfl) ?_
  refine va_get (D := (dC, dI)) (ci := 0) (v := .ref ya) (C := RX0) (T := TX0) (N := 2) hx hb hts inAll_0 hown hK hP 0 rfl rfl 0 (by decide) (hts (.fieldLink RX0 15 "LoopEnvelopes$Bytes" "cells" "[B") k_8) (fun _ h9 => h9) rfl dX0_append_22 ?_
  refine lv_aload_n hx hb dX0_append_25 rfl (lv_at hl 0 rfl) ?_
  refine va_get (D := (dC, dI)) (ci := 0) (v := .int (nI j)) (C := RX0) (T := TX0) (N := 2) hx hb hts inAll_0 hown hK hP 0 rfl rfl 1 (by decide) (hts (.fieldLink RX0 21 "LoopEnvelopes$Bytes" "used" "I") k_9) (fun _ h9 => h9) rfl dX0_append_26 ?_
  refine lv_iload_n hx hb dX0_append_29 rfl (lv_at hl 1 rfl) ?_
  refine lv_i2b hx hb dX0_append_30 rfl ?_
  refine lv_topi (fun b1 eb1 => ?_)
  refine va_bast hx hb hK hP hD hS 1 0 rfl rfl (vp_in_nI g1 (by decide)) dX0_append_31 (fun H locs hP hD hS => ?_)
  have hP : va_P (dC, dI) vwCl [(a0, .inr (0, [.ref ya, .int (nI j)])), (ya, .inl (cA, 1200, .inl (upd f0 (nI j).toNatClampNeg (vp_nar .byte b1))))] H := hP
  have hD : va_D A [(a0, .inr (0, [.ref ya, .int (nI j)])), (ya, .inl (cA, 1200, .inl (upd f0 (nI j).toNatClampNeg (vp_nar .byte b1))))] := hD
  refine lv_aload_n hx hb dX0_append_32 rfl (lv_at hl 0 rfl) ?_
  refine lv_dup hx hb dX0_append_33 rfl ?_
  refine va_get (D := (dC, dI)) (ci := 0) (v := .int (nI j)) (C := RX0) (T := TX0) (N := 2) hx hb hts inAll_0 hown hK hP 0 rfl rfl 1 (by decide) (hts (.fieldLink RX0 21 "LoopEnvelopes$Bytes" "used" "I") k_9) (fun _ h9 => h9) rfl dX0_append_34 ?_
  refine lv_iconst (v := 1) hx hb dX0_append_37 (by decide) ?_
  refine lv_iadd hx hb dX0_append_38 ?_
  refine pf_top (y := (nI (j + 1))) (nI_1 j) ?_
  refine va_put (D := (dC, dI)) (ci := 0) (v := .int (nI (j + 1))) (ty := .int) (C := RX0) (T := TX0) (N := 2) hx hb hts inAll_0 tyX0 tyX0_ok nmX0 hown hK hP hD hS 0 rfl rfl 1 (by decide) (hts (.fieldLink RX0 21 "LoopEnvelopes$Bytes" "used" "I") k_9) (fun _ h9 => h9) rfl (by decide +kernel) rfl rfl (Nat.le_of_ble_eq_true rfl) dX0_append_39 (fun H locs hP hD hS => ?_)
  have hP : va_P (dC, dI) vwCl [(a0, .inr (0, [.ref ya, .int (nI (j + 1))])), (ya, .inl (cA, 1200, .inl (upd f0 (nI j).toNatClampNeg (vp_nar .byte b1))))] H := hP
  have hD : va_D A [(a0, .inr (0, [.ref ya, .int (nI (j + 1))])), (ya, .inl (cA, 1200, .inl (upd f0 (nI j).toNatClampNeg (vp_nar .byte b1))))] := hD
  refine lv_iconst (v := 1) hx hb dX0_append_42 (by decide) ?_
  have hP9 := hP.sub (ws' := [(a0, .inr (0, [.ref ya, .int (nI (j + 1))])), (ya, .inl (cA, 1200, .inl (upd f0 (nI j).toNatClampNeg (vp_nar .byte b1))))]) [0, 1] rfl
  have hD9 := hD.sub (ws' := [(a0, .inr (0, [.ref ya, .int (nI (j + 1))])), (ya, .inl (cA, 1200, .inl (upd f0 (nI j).toNatClampNeg (vp_nar .byte b1))))]) [0, 1] (by decide) rfl
  have hK9 := hK.sub (tys' := [(cA, .byte)]) [0] rfl
  exact W.zret (v := 1) hx hb hr rfl (fun t ht hW => ⟨⟨1, (), rfl, rfl, (upd f0 (nI j).toNatClampNeg (vp_nar .byte b1)), by rw [ht]; exact hP9, va_K.moved hW.alike hK9, hD9⟩, hS.F ht⟩) hS.2.2 dX0_append_43

set_option maxHeartbeats 4000000 in
set_option maxRecDepth 100000 in
/-- shorten(n) of none -/
theorem c_X0_shorten (l : Launch) (dC : Nat → ClassId) (dI : Nat → Nat → Nat) (sz : Nat) (a0 : Nat) (ya : Nat) (k0 : Int32) (g1 : k0 ≤ 0) : Met l yX0_shorten pwX0_shorten ({ frames := 1, cells := 0, slots := 0, locals := 20 } : Room) (va_Pc [.ref a0, .int k0] (fun U => U.heap.size = sz ∧ va_P (dC, dI) vwCl [(a0, .inr (0, [.ref ya, .int 0]))] U.heap ∧ va_K (dC, dI) vwCl [] U ∧ va_D (fun _ => True) [(a0, .inr (0, [.ref ya, .int 0]))])) (va_Qv (fun _ : Unit => True) (fun (_ : Unit) (t : State) => va_P (dC, dI) vwCl [(a0, .inr (0, [.ref ya, .int 0]))] t.heap ∧ va_K (dC, dI) vwCl [] t ∧ va_D (va_A [(a0, .inr (0, [.ref ya, .int 0]))] sz) [(a0, .inr (0, [.ref ya, .int 0]))]) (va_A [(a0, .inr (0, [.ref ya, .int 0]))] sz)) 0 0 (va_A [(a0, .inr (0, [.ref ya, .int 0]))] sz) := by
  refine Met.ofW (cc := cX0_shorten) (maxL := 2) (ret := none) (by decide) rfl ?_
  intro p e s m args below meth c s₁ B hml hv
  obtain ⟨rfl, hsz, hP, hK, hD0⟩ := hv
  have hx := B.exec
  have hb := B.bytes
  have hr := B.returns
  have hts0 := atoms_spec (ws := pwX0_shorten) B.pre
  have hts := fun w (h : w ∈ pwAll) => hts0 w (List.mem_cons_of_mem _ h)
  have hown : s.vm.findClass RX0 = some m.cls := findClass_of_methodNamed B.named
  have hlocks := B.notSynchronized
  subst hsz
  have hD := hD0.self (sz := s.heap.size)
  generalize hAe : va_A [(a0, .inr (0, [.ref ya, .int 0]))] s.heap.size = A at hD ⊢
  have hA : ∀ q : Nat, s.heap.size ≤ q → A q := fun q h => by rw [← hAe]; exact Or.inr h
  have hS : va_S A s.heap s.heap [] := va_S.rf
  have hP : va_P (dC, dI) vwCl [(a0, .inr (0, [.ref ya, .int 0]))] s.heap := hP
  have hl := lv_entry ([.ref a0, .int k0]) (n := 2) (Nat.le_of_ble_eq_true rfl)
  rw [lg_entry_eq]
  generalize (lg_sl ([.ref a0, .int k0]) ++ List.replicate (2 - (lg_sl ([.ref a0, .int k0])).length) Slot.unset).toArray = ls at hl ⊢
  have hl : lv_has ls 2 [(0, .ref a0), (1, .int k0)] := hl
  refine lv_aload_n hx hb dX0_shorten_0 rfl (lv_at hl 0 rfl) ?_
  refine lv_iconst (v := 0) hx hb dX0_shorten_1 (by decide) ?_
  refine lv_iload_n hx hb dX0_shorten_2 rfl (lv_at hl 1 rfl) ?_
  refine lv_aload_n hx hb dX0_shorten_3 rfl (lv_at hl 0 rfl) ?_
  refine va_get (D := (dC, dI)) (ci := 0) (v := .int 0) (C := RX0) (T := TX0) (N := 2) hx hb hts inAll_0 hown hK hP 0 rfl rfl 1 (by decide) (hts (.fieldLink RX0 21 "LoopEnvelopes$Bytes" "used" "I") k_9) (fun _ h9 => h9) rfl dX0_shorten_4 ?_
  refine va_mmin hx hb (by rw [hml]; exact hl.1.symm) hown (hts (.methodLink RX0 25 Lib.Math.min.name) k_91) (hts (.static Lib.Math.min.name) k_92) (hts (.initialized "java/lang/Math") k_5) (hts (.code Lib.Math.min.name Lib.Math.min.code 2 (some .int)) k_93) (Nat.le_of_ble_eq_true rfl) (Nat.le_of_ble_eq_true rfl) (Nat.le_of_ble_eq_true rfl) (Nat.le_of_ble_eq_true rfl) dX0_shorten_7 ?_
  refine pf_top (y := k0) (if_neg (Int32.not_lt.mpr g1)) ?_
  refine va_mmax hx hb (by rw [hml]; exact hl.1.symm) hown (hts (.methodLink RX0 9 Lib.Math.max.name) k_3) (hts (.static Lib.Math.max.name) k_4) (hts (.initialized "java/lang/Math") k_5) (hts (.code Lib.Math.max.name Lib.Math.max.code 2 (some .int)) k_6) (Nat.le_of_ble_eq_true rfl) (Nat.le_of_ble_eq_true rfl) (Nat.le_of_ble_eq_true rfl) (Nat.le_of_ble_eq_true rfl) dX0_shorten_10 ?_
  refine pf_top (y := 0) (if_neg (Int32.not_lt.mpr g1)) ?_
  refine va_put (D := (dC, dI)) (ci := 0) (v := .int 0) (ty := .int) (C := RX0) (T := TX0) (N := 2) hx hb hts inAll_0 tyX0 tyX0_ok nmX0 hown hK hP hD hS 0 rfl rfl 1 (by decide) (hts (.fieldLink RX0 21 "LoopEnvelopes$Bytes" "used" "I") k_9) (fun _ h9 => h9) rfl (by decide +kernel) rfl rfl (Nat.le_of_ble_eq_true rfl) dX0_shorten_13 (fun H locs hP hD hS => ?_)
  have hP : va_P (dC, dI) vwCl [(a0, .inr (0, [.ref ya, .int 0]))] H := hP
  have hD : va_D A [(a0, .inr (0, [.ref ya, .int 0]))] := hD
  have hP9 := hP.sub (ws' := [(a0, .inr (0, [.ref ya, .int 0]))]) [0] rfl
  have hD9 := hD.sub (ws' := [(a0, .inr (0, [.ref ya, .int 0]))]) [0] (by decide) rfl
  have hK9 := hK.sub (tys' := []) [] rfl
  exact W.vret hx hb hr (fun t ht hW => ⟨⟨(), rfl, trivial, by rw [ht]; exact hP9, va_K.moved hW.alike hK9, hD9⟩, hS.F ht⟩) hS.2.2 dX0_shorten_16

set_option maxHeartbeats 4000000 in
set_option maxRecDepth 100000 in
/-- become(other), both without bytes -/
theorem c_X0_become (l : Launch) (dC : Nat → ClassId) (dI : Nat → Nat → Nat) (sz : Nat) (a0 : Nat) (ya : Nat) (a1 : Nat) (yb : Nat) : Met l yX0_become pwX0_become ({ frames := 0, cells := 0, slots := 0, locals := 0 } : Room) (va_Pc [.ref a0, .ref a1] (fun U => U.heap.size = sz ∧ va_P (dC, dI) vwCl [(a0, .inr (0, [.ref ya, .int 0])), (a1, .inr (0, [.ref yb, .int 0]))] U.heap ∧ va_K (dC, dI) vwCl [] U ∧ va_D (fun _ => True) [(a0, .inr (0, [.ref ya, .int 0])), (a1, .inr (0, [.ref yb, .int 0]))])) (va_Qv (fun _ : Unit => True) (fun (_ : Unit) (t : State) => va_P (dC, dI) vwCl [(a0, .inr (0, [.ref ya, .int 0])), (a1, .inr (0, [.ref yb, .int 0]))] t.heap ∧ va_K (dC, dI) vwCl [] t ∧ va_D (va_A [(a0, .inr (0, [.ref ya, .int 0])), (a1, .inr (0, [.ref yb, .int 0]))] sz) [(a0, .inr (0, [.ref ya, .int 0])), (a1, .inr (0, [.ref yb, .int 0]))]) (va_A [(a0, .inr (0, [.ref ya, .int 0])), (a1, .inr (0, [.ref yb, .int 0]))] sz)) 0 0 (va_A [(a0, .inr (0, [.ref ya, .int 0])), (a1, .inr (0, [.ref yb, .int 0]))] sz) := by
  refine Met.ofW (cc := cX0_become) (maxL := 3) (ret := none) (by decide) rfl ?_
  intro p e s m args below meth c s₁ B hml hv
  obtain ⟨rfl, hsz, hP, hK, hD0⟩ := hv
  have hx := B.exec
  have hb := B.bytes
  have hr := B.returns
  have hts0 := atoms_spec (ws := pwX0_become) B.pre
  have hts := fun w (h : w ∈ pwAll) => hts0 w (List.mem_cons_of_mem _ h)
  have hown : s.vm.findClass RX0 = some m.cls := findClass_of_methodNamed B.named
  have hlocks := B.notSynchronized
  subst hsz
  have hD := hD0.self (sz := s.heap.size)
  generalize hAe : va_A [(a0, .inr (0, [.ref ya, .int 0])), (a1, .inr (0, [.ref yb, .int 0]))] s.heap.size = A at hD ⊢
  have hA : ∀ q : Nat, s.heap.size ≤ q → A q := fun q h => by rw [← hAe]; exact Or.inr h
  have hS : va_S A s.heap s.heap [] := va_S.rf
  have hP : va_P (dC, dI) vwCl [(a0, .inr (0, [.ref ya, .int 0])), (a1, .inr (0, [.ref yb, .int 0]))] s.heap := hP
  have hl := lv_entry ([.ref a0, .ref a1]) (n := 3) (Nat.le_of_ble_eq_true rfl)
  rw [lg_entry_eq]
  generalize (lg_sl ([.ref a0, .ref a1]) ++ List.replicate (3 - (lg_sl ([.ref a0, .ref a1])).length) Slot.unset).toArray = ls at hl ⊢
  have hl : lv_has ls 3 [(0, .ref a0), (1, .ref a1)] := hl
  refine lv_aload_n hx hb dX0_become_0 rfl (lv_at hl 0 rfl) ?_
  refine lv_iconst (v := 0) hx hb dX0_become_1 (by decide) ?_
  refine va_put (D := (dC, dI)) (ci := 0) (v := .int 0) (ty := .int) (C := RX0) (T := TX0) (N := 2) hx hb hts inAll_0 tyX0 tyX0_ok nmX0 hown hK hP hD hS 0 rfl rfl 1 (by decide) (hts (.fieldLink RX0 21 "LoopEnvelopes$Bytes" "used" "I") k_9) (fun _ h9 => h9) rfl (by decide +kernel) rfl rfl (Nat.le_of_ble_eq_true rfl) dX0_become_2 (fun H locs hP hD hS => ?_)
  have hP : va_P (dC, dI) vwCl [(a0, .inr (0, [.ref ya, .int 0])), (a1, .inr (0, [.ref yb, .int 0]))] H := hP
  have hD : va_D A [(a0, .inr (0, [.ref ya, .int 0])), (a1, .inr (0, [.ref yb, .int 0]))] := hD
  refine lv_iconst (v := 0) hx hb dX0_become_5 (by decide) ?_
  refine lv_istore_n (lv' := [(2, .int 0), (0, .ref a0), (1, .ref a1)]) hx hb dX0_become_6 rfl hl (by decide) rfl (fun ls hl => ?_)
  refine lv_iload_n hx hb dX0_become_7 rfl (lv_at hl 0 rfl) ?_
  refine lv_aload_n hx hb dX0_become_8 rfl (lv_at hl 2 rfl) ?_
  refine va_get (D := (dC, dI)) (ci := 0) (v := .int 0) (C := RX0) (T := TX0) (N := 2) hx hb hts inAll_0 hown hK hP 1 rfl rfl 1 (by decide) (hts (.fieldLink RX0 21 "LoopEnvelopes$Bytes" "used" "I") k_9) (fun _ h9 => h9) rfl dX0_become_9 ?_
  refine lv_icmp_ge (tgt := 31) hx hb dX0_become_12 (by decide) (fun c_12 => ?_) (fun c_12 => absurd (by decide) c_12)
  have hP9 := hP.sub (ws' := [(a0, .inr (0, [.ref ya, .int 0])), (a1, .inr (0, [.ref yb, .int 0]))]) [0, 1] rfl
  have hD9 := hD.sub (ws' := [(a0, .inr (0, [.ref ya, .int 0])), (a1, .inr (0, [.ref yb, .int 0]))]) [0, 1] (by decide) rfl
  have hK9 := hK.sub (tys' := []) [] rfl
  exact W.vret hx hb hr (fun t ht hW => ⟨⟨(), rfl, trivial, by rw [ht]; exact hP9, va_K.moved hW.alike hK9, hD9⟩, hS.F ht⟩) hS.2.2 dX0_become_31

set_option maxHeartbeats 4000000 in
set_option maxRecDepth 100000 in
/-- take(text) -/
theorem c_X3_take (l : Launch) (dC : Nat → ClassId) (dI : Nat → Nat → Nat) (sz : Nat) (a0 : Nat) (b2 : Nat) (t1 : Nat) (t2 : Nat) (t3 : Nat) (yb : Nat) (a1 : Nat) (ya : Nat) : Met l yX3_take pwX3_take ({ frames := 1, cells := 0, slots := 0, locals := 22 } : Room) (va_Pc [.ref a0, .ref a1] (fun U => U.heap.size = sz ∧ va_P (dC, dI) vwCl [(a0, .inr (3, [.ref b2, .ref t1, .ref t2, .ref t3, .int 0])), (b2, .inr (0, [.ref yb, .int 0])), (a1, .inr (0, [.ref ya, .int 0]))] U.heap ∧ va_K (dC, dI) vwCl [] U ∧ va_D (fun _ => True) [(a0, .inr (3, [.ref b2, .ref t1, .ref t2, .ref t3, .int 0])), (b2, .inr (0, [.ref yb, .int 0])), (a1, .inr (0, [.ref ya, .int 0]))])) (va_Qv (fun _ : Unit => True) (fun (_ : Unit) (t : State) => va_P (dC, dI) vwCl [(a0, .inr (3, [.ref b2, .ref t1, .ref t2, .ref t3, .int 0])), (b2, .inr (0, [.ref yb, .int 0])), (a1, .inr (0, [.ref ya, .int 0]))] t.heap ∧ va_K (dC, dI) vwCl [] t ∧ va_D (va_A [(a0, .inr (3, [.ref b2, .ref t1, .ref t2, .ref t3, .int 0])), (b2, .inr (0, [.ref yb, .int 0])), (a1, .inr (0, [.ref ya, .int 0]))] sz) [(a0, .inr (3, [.ref b2, .ref t1, .ref t2, .ref t3, .int 0])), (b2, .inr (0, [.ref yb, .int 0])), (a1, .inr (0, [.ref ya, .int 0]))]) (va_A [(a0, .inr (3, [.ref b2, .ref t1, .ref t2, .ref t3, .int 0])), (b2, .inr (0, [.ref yb, .int 0])), (a1, .inr (0, [.ref ya, .int 0]))] sz)) 0 0 (va_A [(a0, .inr (3, [.ref b2, .ref t1, .ref t2, .ref t3, .int 0])), (b2, .inr (0, [.ref yb, .int 0])), (a1, .inr (0, [.ref ya, .int 0]))] sz) := by
  refine Met.ofW (cc := cX3_take) (maxL := 2) (ret := none) (by decide) rfl ?_
  intro p e s m args below meth c s₁ B hml hv
  obtain ⟨rfl, hsz, hP, hK, hD0⟩ := hv
  have hx := B.exec
  have hb := B.bytes
  have hr := B.returns
  have hts0 := atoms_spec (ws := pwX3_take) B.pre
  have hts := fun w (h : w ∈ pwAll) => hts0 w (List.mem_cons_of_mem _ h)
  have hown : s.vm.findClass RX3 = some m.cls := findClass_of_methodNamed B.named
  have hlocks := B.notSynchronized
  subst hsz
  have hD := hD0.self (sz := s.heap.size)
  generalize hAe : va_A [(a0, .inr (3, [.ref b2, .ref t1, .ref t2, .ref t3, .int 0])), (b2, .inr (0, [.ref yb, .int 0])), (a1, .inr (0, [.ref ya, .int 0]))] s.heap.size = A at hD ⊢
  have hA : ∀ q : Nat, s.heap.size ≤ q → A q := fun q h => by rw [← hAe]; exact Or.inr h
  have hS : va_S A s.heap s.heap [] := va_S.rf
  have hP : va_P (dC, dI) vwCl [(a0, .inr (3, [.ref b2, .ref t1, .ref t2, .ref t3, .int 0])), (b2, .inr (0, [.ref yb, .int 0])), (a1, .inr (0, [.ref ya, .int 0]))] s.heap := hP
  have hl := lv_entry ([.ref a0, .ref a1]) (n := 2) (Nat.le_of_ble_eq_true rfl)
  rw [lg_entry_eq]
  generalize (lg_sl ([.ref a0, .ref a1]) ++ List.replicate (2 - (lg_sl ([.ref a0, .ref a1])).length) Slot.unset).toArray = ls at hl ⊢
  have hl : lv_has ls 2 [(0, .ref a0), (1, .ref a1)] := hl
  refine lv_aload_n hx hb dX3_take_0 rfl (lv_at hl 0 rfl) ?_
  refine va_get (D := (dC, dI)) (ci := 3) (v := .ref b2) (C := RX3) (T := TX3) (N := 5) hx hb hts inAll_3 hown hK hP 0 rfl rfl 0 (by decide) (hts (.fieldLink RX3 14 "LoopEnvelopes$Segments" "bytes" "LLoopEnvelopes$Bytes;") k_23) (fun _ h9 => h9) rfl dX3_take_1 ?_
  refine lv_aload_n hx hb dX3_take_4 rfl (lv_at hl 1 rfl) ?_
  have hPc := hP.sub (ws' := [(b2, .inr (0, [.ref yb, .int 0])), (a1, .inr (0, [.ref ya, .int 0]))]) [1, 2] rfl
  have hDc := hD.sub (ws' := [(b2, .inr (0, [.ref yb, .int 0])), (a1, .inr (0, [.ref ya, .int 0]))]) [1, 2] (by decide) rfl
  have hKc := hK.sub (tys' := []) [] rfl
  have hFc := va_free (wc := [(b2, .inr (0, [.ref yb, .int 0])), (a1, .inr (0, [.ref ya, .int 0]))]) hD hS hA [1, 2] rfl
  refine va_callv (va_runV (As := [.ref a1]) (rest := []) ⟨hx, hb, hml, hown, hts⟩ (c_X0_become l dC dI s.heap.size b2 yb a1 ya) (cwV 1 hts gg_RX3_39 rfl rfl rfl (by decide +kernel) ⟨Nat.le_of_ble_eq_true rfl, Nat.le_of_ble_eq_true rfl⟩) ⟨fun a U g mk q => by obtain ⟨q0, q1, qP, qK, qD⟩ := q; exact ⟨q0, q1, qP, va_K.moved (u := U) (U := U.calling g mk a) (Vm.Alike.refl U.vm) qK, qD⟩, va_recv hK hP (ci := 0) (q0 := 1) rfl rfl, fun U hU hW => ⟨rfl, by rw [hU], by rw [hU]; exact hPc, va_K.moved hW.alike hKc, hDc.weaken (fun _ _ _ _ => trivial)⟩⟩ rfl rfl hl.1 rfl (lv_room (Nat.le_of_ble_eq_true rfl)) dX3_take_5 ⟨Nat.le_of_ble_eq_true rfl, Nat.le_of_ble_eq_true rfl⟩) hS (fun q _ h => hFc q h) hFc (fun u t H1 locs ht hvm hw hB hz1 hk1 hS => ?_)
  obtain ⟨hP1, hK1, hD1⟩ := hB
  rw [ht] at hP1
  have hK1 := va_K.moved hvm.symm hK1
  obtain ⟨hP, hD⟩ := va_join (wr := [(a0, .inr (3, [.ref b2, .ref t1, .ref t2, .ref t3, .int 0]))]) (w1 := [(b2, .inr (0, [.ref yb, .int 0])), (a1, .inr (0, [.ref ya, .int 0]))]) hP hD [1, 2] [0] rfl rfl (by decide) (by decide) hk1 hFc hP1 hD1
  have hK := (hK.sub (tys' := []) [] rfl).app hK1
  generalize H1 = H at hP hS ⊢
  have hP : va_P (dC, dI) vwCl [(a0, .inr (3, [.ref b2, .ref t1, .ref t2, .ref t3, .int 0])), (b2, .inr (0, [.ref yb, .int 0])), (a1, .inr (0, [.ref ya, .int 0]))] H := hP
  have hD : va_D A [(a0, .inr (3, [.ref b2, .ref t1, .ref t2, .ref t3, .int 0])), (b2, .inr (0, [.ref yb, .int 0])), (a1, .inr (0, [.ref ya, .int 0]))] := hD
  have hK : va_K (dC, dI) vwCl [] s := hK
  refine lv_aload_n hx hb dX3_take_8 rfl (lv_at hl 0 rfl) ?_
  refine lv_iconst (v := 0) hx hb dX3_take_9 (by decide) ?_
  refine va_put (D := (dC, dI)) (ci := 3) (v := .int 0) (ty := .int) (C := RX3) (T := TX3) (N := 5) hx hb hts inAll_3 tyX3 tyX3_ok nmX3 hown hK hP hD hS 0 rfl rfl 4 (by decide) (hts (.fieldLink RX3 35 "LoopEnvelopes$Segments" "held" "I") k_33) (fun _ h9 => h9) rfl (by decide +kernel) rfl rfl (Nat.le_of_ble_eq_true rfl) dX3_take_10 (fun H locs hP hD hS => ?_)
  have hP : va_P (dC, dI) vwCl [(a0, .inr (3, [.ref b2, .ref t1, .ref t2, .ref t3, .int 0])), (b2, .inr (0, [.ref yb, .int 0])), (a1, .inr (0, [.ref ya, .int 0]))] H := hP
  have hD : va_D A [(a0, .inr (3, [.ref b2, .ref t1, .ref t2, .ref t3, .int 0])), (b2, .inr (0, [.ref yb, .int 0])), (a1, .inr (0, [.ref ya, .int 0]))] := hD
  have hP9 := hP.sub (ws' := [(a0, .inr (3, [.ref b2, .ref t1, .ref t2, .ref t3, .int 0])), (b2, .inr (0, [.ref yb, .int 0])), (a1, .inr (0, [.ref ya, .int 0]))]) [0, 1, 2] rfl
  have hD9 := hD.sub (ws' := [(a0, .inr (3, [.ref b2, .ref t1, .ref t2, .ref t3, .int 0])), (b2, .inr (0, [.ref yb, .int 0])), (a1, .inr (0, [.ref ya, .int 0]))]) [0, 1, 2] (by decide) rfl
  have hK9 := hK.sub (tys' := []) [] rfl
  exact W.vret hx hb hr (fun t ht hW => ⟨⟨(), rfl, trivial, by rw [ht]; exact hP9, va_K.moved hW.alike hK9, hD9⟩, hS.F ht⟩) hS.2.2 dX3_take_13

set_option maxHeartbeats 4000000 in
set_option maxRecDepth 100000 in
theorem c_X3_splitter (l : Launch) (dC : Nat → ClassId) (dI : Nat → Nat → Nat) (sz : Nat) (a0 : Nat) (b2 : Nat) (t1 : Nat) (t2 : Nat) (t3 : Nat) (yb : Nat) : Met l yX3_splitter pwX3_splitter ({ frames := 1, cells := 0, slots := 0, locals := 21 } : Room) (va_Pc [.ref a0] (fun U => U.heap.size = sz ∧ va_P (dC, dI) vwCl [(a0, .inr (3, [.ref b2, .ref t1, .ref t2, .ref t3, .int 0])), (b2, .inr (0, [.ref yb, .int 0]))] U.heap ∧ va_K (dC, dI) vwCl [] U ∧ va_D (fun _ => True) [(a0, .inr (3, [.ref b2, .ref t1, .ref t2, .ref t3, .int 0])), (b2, .inr (0, [.ref yb, .int 0]))])) (va_Qi (fun (r : Int32) (_ : Unit) => r = (-1)) (fun (_ : Unit) (t : State) => va_P (dC, dI) vwCl [(a0, .inr (3, [.ref b2, .ref t1, .ref t2, .ref t3, .int 0])), (b2, .inr (0, [.ref yb, .int 0]))] t.heap ∧ va_K (dC, dI) vwCl [] t ∧ va_D (va_A [(a0, .inr (3, [.ref b2, .ref t1, .ref t2, .ref t3, .int 0])), (b2, .inr (0, [.ref yb, .int 0]))] sz) [(a0, .inr (3, [.ref b2, .ref t1, .ref t2, .ref t3, .int 0])), (b2, .inr (0, [.ref yb, .int 0]))]) (va_A [(a0, .inr (3, [.ref b2, .ref t1, .ref t2, .ref t3, .int 0])), (b2, .inr (0, [.ref yb, .int 0]))] sz)) 0 0 (va_A [(a0, .inr (3, [.ref b2, .ref t1, .ref t2, .ref t3, .int 0])), (b2, .inr (0, [.ref yb, .int 0]))] sz) := by
  refine Met.ofW (cc := cX3_splitter) (maxL := 1) (ret := (some .int)) (by decide) rfl ?_
  intro p e s m args below meth c s₁ B hml hv
  obtain ⟨rfl, hsz, hP, hK, hD0⟩ := hv
  have hx := B.exec
  have hb := B.bytes
  have hr := B.returns
  have hts0 := atoms_spec (ws := pwX3_splitter) B.pre
  have hts := fun w (h : w ∈ pwAll) => hts0 w (List.mem_cons_of_mem _ h)
  have hown : s.vm.findClass RX3 = some m.cls := findClass_of_methodNamed B.named
  have hlocks := B.notSynchronized
  subst hsz
  have hD := hD0.self (sz := s.heap.size)
  generalize hAe : va_A [(a0, .inr (3, [.ref b2, .ref t1, .ref t2, .ref t3, .int 0])), (b2, .inr (0, [.ref yb, .int 0]))] s.heap.size = A at hD ⊢
  have hA : ∀ q : Nat, s.heap.size ≤ q → A q := fun q h => by rw [← hAe]; exact Or.inr h
  have hS : va_S A s.heap s.heap [] := va_S.rf
  have hP : va_P (dC, dI) vwCl [(a0, .inr (3, [.ref b2, .ref t1, .ref t2, .ref t3, .int 0])), (b2, .inr (0, [.ref yb, .int 0]))] s.heap := hP
  have hl := lv_entry ([.ref a0]) (n := 1) (Nat.le_of_ble_eq_true rfl)
  rw [lg_entry_eq]
  generalize (lg_sl ([.ref a0]) ++ List.replicate (1 - (lg_sl ([.ref a0])).length) Slot.unset).toArray = ls at hl ⊢
  have hl : lv_has ls 1 [(0, .ref a0)] := hl
  refine lv_aload_n hx hb dX3_splitter_0 rfl (lv_at hl 0 rfl) ?_
  refine va_get (D := (dC, dI)) (ci := 3) (v := .ref b2) (C := RX3) (T := TX3) (N := 5) hx hb hts inAll_3 hown hK hP 0 rfl rfl 0 (by decide) (hts (.fieldLink RX3 14 "LoopEnvelopes$Segments" "bytes" "LLoopEnvelopes$Bytes;") k_23) (fun _ h9 => h9) rfl dX3_splitter_1 ?_
  refine lv_iconst (v := 3) hx hb dX3_splitter_4 (by decide) ?_
  have hPc := hP.sub (ws' := [(b2, .inr (0, [.ref yb, .int 0]))]) [1] rfl
  have hDc := hD.sub (ws' := [(b2, .inr (0, [.ref yb, .int 0]))]) [1] (by decide) rfl
  have hKc := hK.sub (tys' := []) [] rfl
  have hFc := va_free (wc := [(b2, .inr (0, [.ref yb, .int 0]))]) hD hS hA [1] rfl
  refine va_calli (va_runV (As := [.int 3]) (rest := []) ⟨hx, hb, hml, hown, hts⟩ (c_X0_at0 l dC dI s.heap.size b2 yb 3) (cwV 1 hts gg_RX3_47 rfl rfl rfl (by decide +kernel) ⟨Nat.le_of_ble_eq_true rfl, Nat.le_of_ble_eq_true rfl⟩) ⟨fun a U g mk q => by obtain ⟨q0, q1, qP, qK, qD⟩ := q; exact ⟨q0, q1, qP, va_K.moved (u := U) (U := U.calling g mk a) (Vm.Alike.refl U.vm) qK, qD⟩, va_recv hK hP (ci := 0) (q0 := 1) rfl rfl, fun U hU hW => ⟨rfl, by rw [hU], by rw [hU]; exact hPc, va_K.moved hW.alike hKc, hDc.weaken (fun _ _ _ _ => trivial)⟩⟩ rfl rfl hl.1 rfl (lv_room (Nat.le_of_ble_eq_true rfl)) dX3_splitter_5 ⟨Nat.le_of_ble_eq_true rfl, Nat.le_of_ble_eq_true rfl⟩) hS (fun q _ h => hFc q h) hFc (fun r1 u t H1 locs ht hvm hw hB hz1 hk1 hS => ?_)
  obtain ⟨hP1, hK1, hD1⟩ := hB
  rw [ht] at hP1
  have hK1 := va_K.moved hvm.symm hK1
  obtain ⟨hP, hD⟩ := va_join (wr := [(a0, .inr (3, [.ref b2, .ref t1, .ref t2, .ref t3, .int 0]))]) (w1 := [(b2, .inr (0, [.ref yb, .int 0]))]) hP hD [1] [0] rfl rfl (by decide) (by decide) hk1 hFc hP1 hD1
  have hK := (hK.sub (tys' := []) [] rfl).app hK1
  generalize H1 = H at hP hS ⊢
  have hP : va_P (dC, dI) vwCl [(a0, .inr (3, [.ref b2, .ref t1, .ref t2, .ref t3, .int 0])), (b2, .inr (0, [.ref yb, .int 0]))] H := hP
  have hD : va_D A [(a0, .inr (3, [.ref b2, .ref t1, .ref t2, .ref t3, .int 0])), (b2, .inr (0, [.ref yb, .int 0]))] := hD
  have hK : va_K (dC, dI) vwCl [] s := hK
  have hw : r1 = (-1) := hw
  subst hw
  have hP9 := hP.sub (ws' := [(a0, .inr (3, [.ref b2, .ref t1, .ref t2, .ref t3, .int 0])), (b2, .inr (0, [.ref yb, .int 0]))]) [0, 1] rfl
  have hD9 := hD.sub (ws' := [(a0, .inr (3, [.ref b2, .ref t1, .ref t2, .ref t3, .int 0])), (b2, .inr (0, [.ref yb, .int 0]))]) [0, 1] (by decide) rfl
  have hK9 := hK.sub (tys' := []) [] rfl
  exact W.iret (v := (-1)) hx hb hr (fun t ht hW => ⟨⟨(-1), (), rfl, rfl, by rw [ht]; exact hP9, va_K.moved hW.alike hK9, hD9⟩, hS.F ht⟩) hS.2.2 dX3_splitter_8

set_option maxHeartbeats 4000000 in
set_option maxRecDepth 100000 in
theorem c_X3_closer (l : Launch) (dC : Nat → ClassId) (dI : Nat → Nat → Nat) (sz : Nat) (a0 : Nat) (b2 : Nat) (t1 : Nat) (t2 : Nat) (t3 : Nat) (yb : Nat) : Met l yX3_closer pwX3_closer ({ frames := 1, cells := 0, slots := 0, locals := 21 } : Room) (va_Pc [.ref a0] (fun U => U.heap.size = sz ∧ va_P (dC, dI) vwCl [(a0, .inr (3, [.ref b2, .ref t1, .ref t2, .ref t3, .int 0])), (b2, .inr (0, [.ref yb, .int 0]))] U.heap ∧ va_K (dC, dI) vwCl [] U ∧ va_D (fun _ => True) [(a0, .inr (3, [.ref b2, .ref t1, .ref t2, .ref t3, .int 0])), (b2, .inr (0, [.ref yb, .int 0]))])) (va_Qi (fun (r : Int32) (_ : Unit) => r = (-1)) (fun (_ : Unit) (t : State) => va_P (dC, dI) vwCl [(a0, .inr (3, [.ref b2, .ref t1, .ref t2, .ref t3, .int 0])), (b2, .inr (0, [.ref yb, .int 0]))] t.heap ∧ va_K (dC, dI) vwCl [] t ∧ va_D (va_A [(a0, .inr (3, [.ref b2, .ref t1, .ref t2, .ref t3, .int 0])), (b2, .inr (0, [.ref yb, .int 0]))] sz) [(a0, .inr (3, [.ref b2, .ref t1, .ref t2, .ref t3, .int 0])), (b2, .inr (0, [.ref yb, .int 0]))]) (va_A [(a0, .inr (3, [.ref b2, .ref t1, .ref t2, .ref t3, .int 0])), (b2, .inr (0, [.ref yb, .int 0]))] sz)) 0 0 (va_A [(a0, .inr (3, [.ref b2, .ref t1, .ref t2, .ref t3, .int 0])), (b2, .inr (0, [.ref yb, .int 0]))] sz) := by
  refine Met.ofW (cc := cX3_closer) (maxL := 1) (ret := (some .int)) (by decide) rfl ?_
  intro p e s m args below meth c s₁ B hml hv
  obtain ⟨rfl, hsz, hP, hK, hD0⟩ := hv
  have hx := B.exec
  have hb := B.bytes
  have hr := B.returns
  have hts0 := atoms_spec (ws := pwX3_closer) B.pre
  have hts := fun w (h : w ∈ pwAll) => hts0 w (List.mem_cons_of_mem _ h)
  have hown : s.vm.findClass RX3 = some m.cls := findClass_of_methodNamed B.named
  have hlocks := B.notSynchronized
  subst hsz
  have hD := hD0.self (sz := s.heap.size)
  generalize hAe : va_A [(a0, .inr (3, [.ref b2, .ref t1, .ref t2, .ref t3, .int 0])), (b2, .inr (0, [.ref yb, .int 0]))] s.heap.size = A at hD ⊢
  have hA : ∀ q : Nat, s.heap.size ≤ q → A q := fun q h => by rw [← hAe]; exact Or.inr h
  have hS : va_S A s.heap s.heap [] := va_S.rf
  have hP : va_P (dC, dI) vwCl [(a0, .inr (3, [.ref b2, .ref t1, .ref t2, .ref t3, .int 0])), (b2, .inr (0, [.ref yb, .int 0]))] s.heap := hP
  have hl := lv_entry ([.ref a0]) (n := 1) (Nat.le_of_ble_eq_true rfl)
  rw [lg_entry_eq]
  generalize (lg_sl ([.ref a0]) ++ List.replicate (1 - (lg_sl ([.ref a0])).length) Slot.unset).toArray = ls at hl ⊢
  have hl : lv_has ls 1 [(0, .ref a0)] := hl
  refine lv_aload_n hx hb dX3_closer_0 rfl (lv_at hl 0 rfl) ?_
  refine va_get (D := (dC, dI)) (ci := 3) (v := .ref b2) (C := RX3) (T := TX3) (N := 5) hx hb hts inAll_3 hown hK hP 0 rfl rfl 0 (by decide) (hts (.fieldLink RX3 14 "LoopEnvelopes$Segments" "bytes" "LLoopEnvelopes$Bytes;") k_23) (fun _ h9 => h9) rfl dX3_closer_1 ?_
  refine lv_bipush (v := 15) hx hb dX3_closer_4 (by decide) ?_
  have hPc := hP.sub (ws' := [(b2, .inr (0, [.ref yb, .int 0]))]) [1] rfl
  have hDc := hD.sub (ws' := [(b2, .inr (0, [.ref yb, .int 0]))]) [1] (by decide) rfl
  have hKc := hK.sub (tys' := []) [] rfl
  have hFc := va_free (wc := [(b2, .inr (0, [.ref yb, .int 0]))]) hD hS hA [1] rfl
  refine va_calli (va_runV (As := [.int 15]) (rest := []) ⟨hx, hb, hml, hown, hts⟩ (c_X0_at0 l dC dI s.heap.size b2 yb 15) (cwV 1 hts gg_RX3_47 rfl rfl rfl (by decide +kernel) ⟨Nat.le_of_ble_eq_true rfl, Nat.le_of_ble_eq_true rfl⟩) ⟨fun a U g mk q => by obtain ⟨q0, q1, qP, qK, qD⟩ := q; exact ⟨q0, q1, qP, va_K.moved (u := U) (U := U.calling g mk a) (Vm.Alike.refl U.vm) qK, qD⟩, va_recv hK hP (ci := 0) (q0 := 1) rfl rfl, fun U hU hW => ⟨rfl, by rw [hU], by rw [hU]; exact hPc, va_K.moved hW.alike hKc, hDc.weaken (fun _ _ _ _ => trivial)⟩⟩ rfl rfl hl.1 rfl (lv_room (Nat.le_of_ble_eq_true rfl)) dX3_closer_6 ⟨Nat.le_of_ble_eq_true rfl, Nat.le_of_ble_eq_true rfl⟩) hS (fun q _ h => hFc q h) hFc (fun r1 u t H1 locs ht hvm hw hB hz1 hk1 hS => ?_)
  obtain ⟨hP1, hK1, hD1⟩ := hB
  rw [ht] at hP1
  have hK1 := va_K.moved hvm.symm hK1
  obtain ⟨hP, hD⟩ := va_join (wr := [(a0, .inr (3, [.ref b2, .ref t1, .ref t2, .ref t3, .int 0]))]) (w1 := [(b2, .inr (0, [.ref yb, .int 0]))]) hP hD [1] [0] rfl rfl (by decide) (by decide) hk1 hFc hP1 hD1
  have hK := (hK.sub (tys' := []) [] rfl).app hK1
  generalize H1 = H at hP hS ⊢
  have hP : va_P (dC, dI) vwCl [(a0, .inr (3, [.ref b2, .ref t1, .ref t2, .ref t3, .int 0])), (b2, .inr (0, [.ref yb, .int 0]))] H := hP
  have hD : va_D A [(a0, .inr (3, [.ref b2, .ref t1, .ref t2, .ref t3, .int 0])), (b2, .inr (0, [.ref yb, .int 0]))] := hD
  have hK : va_K (dC, dI) vwCl [] s := hK
  have hw : r1 = (-1) := hw
  subst hw
  have hP9 := hP.sub (ws' := [(a0, .inr (3, [.ref b2, .ref t1, .ref t2, .ref t3, .int 0])), (b2, .inr (0, [.ref yb, .int 0]))]) [0, 1] rfl
  have hD9 := hD.sub (ws' := [(a0, .inr (3, [.ref b2, .ref t1, .ref t2, .ref t3, .int 0])), (b2, .inr (0, [.ref yb, .int 0]))]) [0, 1] (by decide) rfl
  have hK9 := hK.sub (tys' := []) [] rfl
  exact W.iret (v := (-1)) hx hb hr (fun t ht hW => ⟨⟨(-1), (), rfl, rfl, by rw [ht]; exact hP9, va_K.moved hW.alike hK9, hD9⟩, hS.F ht⟩) hS.2.2 dX3_closer_9

set_option maxHeartbeats 4000000 in
set_option maxRecDepth 100000 in
/-- opens(), of no bytes -/
theorem c_X3_opens (l : Launch) (dC : Nat → ClassId) (dI : Nat → Nat → Nat) (sz : Nat) (a0 : Nat) (b2 : Nat) (t1 : Nat) (t2 : Nat) (t3 : Nat) (yb : Nat) : Met l yX3_opens pwX3_opens ({ frames := 2, cells := 0, slots := 0, locals := 41 } : Room) (va_Pc [.ref a0] (fun U => U.heap.size = sz ∧ va_P (dC, dI) vwCl [(a0, .inr (3, [.ref b2, .ref t1, .ref t2, .ref t3, .int 0])), (b2, .inr (0, [.ref yb, .int 0]))] U.heap ∧ va_K (dC, dI) vwCl [] U ∧ va_D (fun _ => True) [(a0, .inr (3, [.ref b2, .ref t1, .ref t2, .ref t3, .int 0])), (b2, .inr (0, [.ref yb, .int 0]))])) (va_Qi (fun (r : Int32) (_ : Unit) => r = 0) (fun (_ : Unit) (t : State) => va_P (dC, dI) vwCl [(a0, .inr (3, [.ref b2, .ref t1, .ref t2, .ref t3, .int 0])), (b2, .inr (0, [.ref yb, .int 0]))] t.heap ∧ va_K (dC, dI) vwCl [] t ∧ va_D (va_A [(a0, .inr (3, [.ref b2, .ref t1, .ref t2, .ref t3, .int 0])), (b2, .inr (0, [.ref yb, .int 0]))] sz) [(a0, .inr (3, [.ref b2, .ref t1, .ref t2, .ref t3, .int 0])), (b2, .inr (0, [.ref yb, .int 0]))]) (va_A [(a0, .inr (3, [.ref b2, .ref t1, .ref t2, .ref t3, .int 0])), (b2, .inr (0, [.ref yb, .int 0]))] sz)) 0 0 (va_A [(a0, .inr (3, [.ref b2, .ref t1, .ref t2, .ref t3, .int 0])), (b2, .inr (0, [.ref yb, .int 0]))] sz) := by
  refine Met.ofW (cc := cX3_opens) (maxL := 4) (ret := (some .boolean)) (by decide) rfl ?_
  intro p e s m args below meth c s₁ B hml hv
  obtain ⟨rfl, hsz, hP, hK, hD0⟩ := hv
  have hx := B.exec
  have hb := B.bytes
  have hr := B.returns
  have hts0 := atoms_spec (ws := pwX3_opens) B.pre
  have hts := fun w (h : w ∈ pwAll) => hts0 w (List.mem_cons_of_mem _ h)
  have hown : s.vm.findClass RX3 = some m.cls := findClass_of_methodNamed B.named
  have hlocks := B.notSynchronized
  subst hsz
  have hD := hD0.self (sz := s.heap.size)
  generalize hAe : va_A [(a0, .inr (3, [.ref b2, .ref t1, .ref t2, .ref t3, .int 0])), (b2, .inr (0, [.ref yb, .int 0]))] s.heap.size = A at hD ⊢
  have hA : ∀ q : Nat, s.heap.size ≤ q → A q := fun q h => by rw [← hAe]; exact Or.inr h
  have hS : va_S A s.heap s.heap [] := va_S.rf
  have hP : va_P (dC, dI) vwCl [(a0, .inr (3, [.ref b2, .ref t1, .ref t2, .ref t3, .int 0])), (b2, .inr (0, [.ref yb, .int 0]))] s.heap := hP
  have hl := lv_entry ([.ref a0]) (n := 4) (Nat.le_of_ble_eq_true rfl)
  rw [lg_entry_eq]
  generalize (lg_sl ([.ref a0]) ++ List.replicate (4 - (lg_sl ([.ref a0])).length) Slot.unset).toArray = ls at hl ⊢
  have hl : lv_has ls 4 [(0, .ref a0)] := hl
  refine lv_aload_n hx hb dX3_opens_0 rfl (lv_at hl 0 rfl) ?_
  have hPc := hP.sub (ws' := [(a0, .inr (3, [.ref b2, .ref t1, .ref t2, .ref t3, .int 0])), (b2, .inr (0, [.ref yb, .int 0]))]) [0, 1] rfl
  have hDc := hD.sub (ws' := [(a0, .inr (3, [.ref b2, .ref t1, .ref t2, .ref t3, .int 0])), (b2, .inr (0, [.ref yb, .int 0]))]) [0, 1] (by decide) rfl
  have hKc := hK.sub (tys' := []) [] rfl
  have hFc := va_free (wc := [(a0, .inr (3, [.ref b2, .ref t1, .ref t2, .ref t3, .int 0])), (b2, .inr (0, [.ref yb, .int 0]))]) hD hS hA [0, 1] rfl
  refine va_calli (va_runV (As := []) (rest := []) ⟨hx, hb, hml, hown, hts⟩ (c_X3_splitter l dC dI s.heap.size a0 b2 t1 t2 t3 yb) (cwV 0 hts gg_RX3_55 rfl rfl rfl (by decide +kernel) ⟨Nat.le_of_ble_eq_true rfl, Nat.le_of_ble_eq_true rfl⟩) ⟨fun a U g mk q => by obtain ⟨q0, q1, qP, qK, qD⟩ := q; exact ⟨q0, q1, qP, va_K.moved (u := U) (U := U.calling g mk a) (Vm.Alike.refl U.vm) qK, qD⟩, va_recv hK hP (ci := 3) (q0 := 0) rfl rfl, fun U hU hW => ⟨rfl, by rw [hU], by rw [hU]; exact hPc, va_K.moved hW.alike hKc, hDc.weaken (fun _ _ _ _ => trivial)⟩⟩ rfl rfl hl.1 rfl (lv_room (Nat.le_of_ble_eq_true rfl)) dX3_opens_1 ⟨Nat.le_of_ble_eq_true rfl, Nat.le_of_ble_eq_true rfl⟩) hS (fun q _ h => hFc q h) hFc (fun r1 u t H1 locs ht hvm hw hB hz1 hk1 hS => ?_)
  obtain ⟨hP1, hK1, hD1⟩ := hB
  rw [ht] at hP1
  have hK1 := va_K.moved hvm.symm hK1
  obtain ⟨hP, hD⟩ := va_join (wr := []) (w1 := [(a0, .inr (3, [.ref b2, .ref t1, .ref t2, .ref t3, .int 0])), (b2, .inr (0, [.ref yb, .int 0]))]) hP hD [0, 1] [] rfl rfl (by decide) (by decide) hk1 hFc hP1 hD1
  have hK := (hK.sub (tys' := []) [] rfl).app hK1
  generalize H1 = H at hP hS ⊢
  have hP : va_P (dC, dI) vwCl [(a0, .inr (3, [.ref b2, .ref t1, .ref t2, .ref t3, .int 0])), (b2, .inr (0, [.ref yb, .int 0]))] H := hP
  have hD : va_D A [(a0, .inr (3, [.ref b2, .ref t1, .ref t2, .ref t3, .int 0])), (b2, .inr (0, [.ref yb, .int 0]))] := hD
  have hK : va_K (dC, dI) vwCl [] s := hK
  have hw : r1 = (-1) := hw
  subst hw
  refine lv_istore_n (lv' := [(1, .int (-1)), (0, .ref a0)]) hx hb dX3_opens_4 rfl hl (by decide) rfl (fun ls hl => ?_)
  refine lv_aload_n hx hb dX3_opens_5 rfl (lv_at hl 1 rfl) ?_
  refine va_get (D := (dC, dI)) (ci := 3) (v := .ref b2) (C := RX3) (T := TX3) (N := 5) hx hb hts inAll_3 hown hK hP 0 rfl rfl 0 (by decide) (hts (.fieldLink RX3 14 "LoopEnvelopes$Segments" "bytes" "LLoopEnvelopes$Bytes;") k_23) (fun _ h9 => h9) rfl dX3_opens_6 ?_
  refine lv_bipush (v := 14) hx hb dX3_opens_9 (by decide) ?_
  have hPc := hP.sub (ws' := [(b2, .inr (0, [.ref yb, .int 0]))]) [1] rfl
  have hDc := hD.sub (ws' := [(b2, .inr (0, [.ref yb, .int 0]))]) [1] (by decide) rfl
  have hKc := hK.sub (tys' := []) [] rfl
  have hFc := va_free (wc := [(b2, .inr (0, [.ref yb, .int 0]))]) hD hS hA [1] rfl
  refine va_calli (va_runV (As := [.int 14]) (rest := []) ⟨hx, hb, hml, hown, hts⟩ (c_X0_at0 l dC dI H.size b2 yb 14) (cwV 1 hts gg_RX3_47 rfl rfl rfl (by decide +kernel) ⟨Nat.le_of_ble_eq_true rfl, Nat.le_of_ble_eq_true rfl⟩) ⟨fun a U g mk q => by obtain ⟨q0, q1, qP, qK, qD⟩ := q; exact ⟨q0, q1, qP, va_K.moved (u := U) (U := U.calling g mk a) (Vm.Alike.refl U.vm) qK, qD⟩, va_recv hK hP (ci := 0) (q0 := 1) rfl rfl, fun U hU hW => ⟨rfl, by rw [hU], by rw [hU]; exact hPc, va_K.moved hW.alike hKc, hDc.weaken (fun _ _ _ _ => trivial)⟩⟩ rfl rfl hl.1 rfl (lv_room (Nat.le_of_ble_eq_true rfl)) dX3_opens_11 ⟨Nat.le_of_ble_eq_true rfl, Nat.le_of_ble_eq_true rfl⟩) hS (fun q _ h => hFc q h) hFc (fun r2 u t H1 locs ht hvm hw hB hz1 hk1 hS => ?_)
  obtain ⟨hP1, hK1, hD1⟩ := hB
  rw [ht] at hP1
  have hK1 := va_K.moved hvm.symm hK1
  obtain ⟨hP, hD⟩ := va_join (wr := [(a0, .inr (3, [.ref b2, .ref t1, .ref t2, .ref t3, .int 0]))]) (w1 := [(b2, .inr (0, [.ref yb, .int 0]))]) hP hD [1] [0] rfl rfl (by decide) (by decide) hk1 hFc hP1 hD1
  have hK := (hK.sub (tys' := []) [] rfl).app hK1
  generalize H1 = H at hP hS ⊢
  have hP : va_P (dC, dI) vwCl [(a0, .inr (3, [.ref b2, .ref t1, .ref t2, .ref t3, .int 0])), (b2, .inr (0, [.ref yb, .int 0]))] H := hP
  have hD : va_D A [(a0, .inr (3, [.ref b2, .ref t1, .ref t2, .ref t3, .int 0])), (b2, .inr (0, [.ref yb, .int 0]))] := hD
  have hK : va_K (dC, dI) vwCl [] s := hK
  have hw : r2 = (-1) := hw
  subst hw
  refine lv_istore_n (lv' := [(2, .int (-1)), (1, .int (-1)), (0, .ref a0)]) hx hb dX3_opens_14 rfl hl (by decide) rfl (fun ls hl => ?_)
  refine lv_aload_n hx hb dX3_opens_15 rfl (lv_at hl 2 rfl) ?_
  have hPc := hP.sub (ws' := [(a0, .inr (3, [.ref b2, .ref t1, .ref t2, .ref t3, .int 0])), (b2, .inr (0, [.ref yb, .int 0]))]) [0, 1] rfl
  have hDc := hD.sub (ws' := [(a0, .inr (3, [.ref b2, .ref t1, .ref t2, .ref t3, .int 0])), (b2, .inr (0, [.ref yb, .int 0]))]) [0, 1] (by decide) rfl
  have hKc := hK.sub (tys' := []) [] rfl
  have hFc := va_free (wc := [(a0, .inr (3, [.ref b2, .ref t1, .ref t2, .ref t3, .int 0])), (b2, .inr (0, [.ref yb, .int 0]))]) hD hS hA [0, 1] rfl
  refine va_calli (va_runV (As := []) (rest := []) ⟨hx, hb, hml, hown, hts⟩ (c_X3_closer l dC dI H.size a0 b2 t1 t2 t3 yb) (cwV 0 hts gg_RX3_58 rfl rfl rfl (by decide +kernel) ⟨Nat.le_of_ble_eq_true rfl, Nat.le_of_ble_eq_true rfl⟩) ⟨fun a U g mk q => by obtain ⟨q0, q1, qP, qK, qD⟩ := q; exact ⟨q0, q1, qP, va_K.moved (u := U) (U := U.calling g mk a) (Vm.Alike.refl U.vm) qK, qD⟩, va_recv hK hP (ci := 3) (q0 := 0) rfl rfl, fun U hU hW => ⟨rfl, by rw [hU], by rw [hU]; exact hPc, va_K.moved hW.alike hKc, hDc.weaken (fun _ _ _ _ => trivial)⟩⟩ rfl rfl hl.1 rfl (lv_room (Nat.le_of_ble_eq_true rfl)) dX3_opens_16 ⟨Nat.le_of_ble_eq_true rfl, Nat.le_of_ble_eq_true rfl⟩) hS (fun q _ h => hFc q h) hFc (fun r3 u t H1 locs ht hvm hw hB hz1 hk1 hS => ?_)
  obtain ⟨hP1, hK1, hD1⟩ := hB
  rw [ht] at hP1
  have hK1 := va_K.moved hvm.symm hK1
  obtain ⟨hP, hD⟩ := va_join (wr := []) (w1 := [(a0, .inr (3, [.ref b2, .ref t1, .ref t2, .ref t3, .int 0])), (b2, .inr (0, [.ref yb, .int 0]))]) hP hD [0, 1] [] rfl rfl (by decide) (by decide) hk1 hFc hP1 hD1
  have hK := (hK.sub (tys' := []) [] rfl).app hK1
  generalize H1 = H at hP hS ⊢
  have hP : va_P (dC, dI) vwCl [(a0, .inr (3, [.ref b2, .ref t1, .ref t2, .ref t3, .int 0])), (b2, .inr (0, [.ref yb, .int 0]))] H := hP
  have hD : va_D A [(a0, .inr (3, [.ref b2, .ref t1, .ref t2, .ref t3, .int 0])), (b2, .inr (0, [.ref yb, .int 0]))] := hD
  have hK : va_K (dC, dI) vwCl [] s := hK
  have hw : r3 = (-1) := hw
  subst hw
  refine lv_istore_n (lv' := [(3, .int (-1)), (2, .int (-1)), (1, .int (-1)), (0, .ref a0)]) hx hb dX3_opens_19 rfl hl (by decide) rfl (fun ls hl => ?_)
  refine lv_aload_n hx hb dX3_opens_20 rfl (lv_at hl 3 rfl) ?_
  refine va_get (D := (dC, dI)) (ci := 3) (v := .ref b2) (C := RX3) (T := TX3) (N := 5) hx hb hts inAll_3 hown hK hP 0 rfl rfl 0 (by decide) (hts (.fieldLink RX3 14 "LoopEnvelopes$Segments" "bytes" "LLoopEnvelopes$Bytes;") k_23) (fun _ h9 => h9) rfl dX3_opens_21 ?_
  have hPc := hP.sub (ws' := [(b2, .inr (0, [.ref yb, .int 0]))]) [1] rfl
  have hDc := hD.sub (ws' := [(b2, .inr (0, [.ref yb, .int 0]))]) [1] (by decide) rfl
  have hKc := hK.sub (tys' := []) [] rfl
  have hFc := va_free (wc := [(b2, .inr (0, [.ref yb, .int 0]))]) hD hS hA [1] rfl
  refine va_calli (va_runV (As := []) (rest := []) ⟨hx, hb, hml, hown, hts⟩ (c_X0_length l dC dI H.size b2 yb 0) (cwV 0 hts gg_RX3_43 rfl rfl rfl (by decide +kernel) ⟨Nat.le_of_ble_eq_true rfl, Nat.le_of_ble_eq_true rfl⟩) ⟨fun a U g mk q => by obtain ⟨q0, q1, qP, qK, qD⟩ := q; exact ⟨q0, q1, qP, va_K.moved (u := U) (U := U.calling g mk a) (Vm.Alike.refl U.vm) qK, qD⟩, va_recv hK hP (ci := 0) (q0 := 1) rfl rfl, fun U hU hW => ⟨rfl, by rw [hU], by rw [hU]; exact hPc, va_K.moved hW.alike hKc, hDc.weaken (fun _ _ _ _ => trivial)⟩⟩ rfl rfl hl.1 rfl (lv_room (Nat.le_of_ble_eq_true rfl)) dX3_opens_24 ⟨Nat.le_of_ble_eq_true rfl, Nat.le_of_ble_eq_true rfl⟩) hS (fun q _ h => hFc q h) hFc (fun r4 u t H1 locs ht hvm hw hB hz1 hk1 hS => ?_)
  obtain ⟨hP1, hK1, hD1⟩ := hB
  rw [ht] at hP1
  have hK1 := va_K.moved hvm.symm hK1
  obtain ⟨hP, hD⟩ := va_join (wr := [(a0, .inr (3, [.ref b2, .ref t1, .ref t2, .ref t3, .int 0]))]) (w1 := [(b2, .inr (0, [.ref yb, .int 0]))]) hP hD [1] [0] rfl rfl (by decide) (by decide) hk1 hFc hP1 hD1
  have hK := (hK.sub (tys' := []) [] rfl).app hK1
  generalize H1 = H at hP hS ⊢
  have hP : va_P (dC, dI) vwCl [(a0, .inr (3, [.ref b2, .ref t1, .ref t2, .ref t3, .int 0])), (b2, .inr (0, [.ref yb, .int 0]))] H := hP
  have hD : va_D A [(a0, .inr (3, [.ref b2, .ref t1, .ref t2, .ref t3, .int 0])), (b2, .inr (0, [.ref yb, .int 0]))] := hD
  have hK : va_K (dC, dI) vwCl [] s := hK
  have hw : r4 = 0 := hw
  subst hw
  refine lv_bipush (v := 16) hx hb dX3_opens_27 (by decide) ?_
  refine lv_icmp_lt (tgt := 132) hx hb dX3_opens_29 (by decide) (fun c_29 => ?_) (fun c_29 => absurd (by decide) c_29)
  refine lv_iconst (v := 0) hx hb dX3_opens_132 (by decide) ?_
  have hP9 := hP.sub (ws' := [(a0, .inr (3, [.ref b2, .ref t1, .ref t2, .ref t3, .int 0])), (b2, .inr (0, [.ref yb, .int 0]))]) [0, 1] rfl
  have hD9 := hD.sub (ws' := [(a0, .inr (3, [.ref b2, .ref t1, .ref t2, .ref t3, .int 0])), (b2, .inr (0, [.ref yb, .int 0]))]) [0, 1] (by decide) rfl
  have hK9 := hK.sub (tys' := []) [] rfl
  exact W.zret (v := 0) hx hb hr rfl (fun t ht hW => ⟨⟨0, (), rfl, rfl, by rw [ht]; exact hP9, va_K.moved hW.alike hK9, hD9⟩, hS.F ht⟩) hS.2.2 dX3_opens_133

set_option maxHeartbeats 4000000 in
set_option maxRecDepth 100000 in
/-- clear() -/
theorem c_X1_clear (l : Launch) (dC : Nat → ClassId) (dI : Nat → Nat → Nat) (sz : Nat) (a0 : Nat) (h1 : Nat) (h2 : Nat) (h3 : Nat) : Met l yX1_clear pwX1_clear ({ frames := 0, cells := 0, slots := 0, locals := 0 } : Room) (va_Pc [.ref a0] (fun U => U.heap.size = sz ∧ va_P (dC, dI) vwCl [(a0, .inr (1, [.ref h1, .ref h2, .ref h3, .int 0, .int 0, .int 0]))] U.heap ∧ va_K (dC, dI) vwCl [] U ∧ va_D (fun _ => True) [(a0, .inr (1, [.ref h1, .ref h2, .ref h3, .int 0, .int 0, .int 0]))])) (va_Qv (fun _ : Unit => True) (fun (_ : Unit) (t : State) => va_P (dC, dI) vwCl [(a0, .inr (1, [.ref h1, .ref h2, .ref h3, .int 0, .int 0, .int 0]))] t.heap ∧ va_K (dC, dI) vwCl [] t ∧ va_D (va_A [(a0, .inr (1, [.ref h1, .ref h2, .ref h3, .int 0, .int 0, .int 0]))] sz) [(a0, .inr (1, [.ref h1, .ref h2, .ref h3, .int 0, .int 0, .int 0]))]) (va_A [(a0, .inr (1, [.ref h1, .ref h2, .ref h3, .int 0, .int 0, .int 0]))] sz)) 0 0 (va_A [(a0, .inr (1, [.ref h1, .ref h2, .ref h3, .int 0, .int 0, .int 0]))] sz) := by
  refine Met.ofW (cc := cX1_clear) (maxL := 1) (ret := none) (by decide) rfl ?_
  intro p e s m args below meth c s₁ B hml hv
  obtain ⟨rfl, hsz, hP, hK, hD0⟩ := hv
  have hx := B.exec
  have hb := B.bytes
  have hr := B.returns
  have hts0 := atoms_spec (ws := pwX1_clear) B.pre
  have hts := fun w (h : w ∈ pwAll) => hts0 w (List.mem_cons_of_mem _ h)
  have hown : s.vm.findClass RX1 = some m.cls := findClass_of_methodNamed B.named
  have hlocks := B.notSynchronized
  subst hsz
  have hD := hD0.self (sz := s.heap.size)
  generalize hAe : va_A [(a0, .inr (1, [.ref h1, .ref h2, .ref h3, .int 0, .int 0, .int 0]))] s.heap.size = A at hD ⊢
  have hA : ∀ q : Nat, s.heap.size ≤ q → A q := fun q h => by rw [← hAe]; exact Or.inr h
  have hS : va_S A s.heap s.heap [] := va_S.rf
  have hP : va_P (dC, dI) vwCl [(a0, .inr (1, [.ref h1, .ref h2, .ref h3, .int 0, .int 0, .int 0]))] s.heap := hP
  have hl := lv_entry ([.ref a0]) (n := 1) (Nat.le_of_ble_eq_true rfl)
  rw [lg_entry_eq]
  generalize (lg_sl ([.ref a0]) ++ List.replicate (1 - (lg_sl ([.ref a0])).length) Slot.unset).toArray = ls at hl ⊢
  have hl : lv_has ls 1 [(0, .ref a0)] := hl
  refine lv_aload_n hx hb dX1_clear_0 rfl (lv_at hl 0 rfl) ?_
  refine lv_iconst (v := 0) hx hb dX1_clear_1 (by decide) ?_
  refine va_put (D := (dC, dI)) (ci := 1) (v := .int 0) (ty := .int) (C := RX1) (T := TX1) (N := 6) hx hb hts inAll_1 tyX1 tyX1_ok nmX1 hown hK hP hD hS 0 rfl rfl 3 (by decide) (hts (.fieldLink RX1 27 "LoopEnvelopes$Frames" "groupsHeld" "I") k_40) (fun _ h9 => h9) rfl (by decide +kernel) rfl rfl (Nat.le_of_ble_eq_true rfl) dX1_clear_2 (fun H locs hP hD hS => ?_)
  have hP : va_P (dC, dI) vwCl [(a0, .inr (1, [.ref h1, .ref h2, .ref h3, .int 0, .int 0, .int 0]))] H := hP
  have hD : va_D A [(a0, .inr (1, [.ref h1, .ref h2, .ref h3, .int 0, .int 0, .int 0]))] := hD
  refine lv_aload_n hx hb dX1_clear_5 rfl (lv_at hl 0 rfl) ?_
  refine lv_iconst (v := 0) hx hb dX1_clear_6 (by decide) ?_
  refine va_put (D := (dC, dI)) (ci := 1) (v := .int 0) (ty := .int) (C := RX1) (T := TX1) (N := 6) hx hb hts inAll_1 tyX1 tyX1_ok nmX1 hown hK hP hD hS 0 rfl rfl 4 (by decide) (hts (.fieldLink RX1 31 "LoopEnvelopes$Frames" "setsHeld" "I") k_41) (fun _ h9 => h9) rfl (by decide +kernel) rfl rfl (Nat.le_of_ble_eq_true rfl) dX1_clear_7 (fun H locs hP hD hS => ?_)
  have hP : va_P (dC, dI) vwCl [(a0, .inr (1, [.ref h1, .ref h2, .ref h3, .int 0, .int 0, .int 0]))] H := hP
  have hD : va_D A [(a0, .inr (1, [.ref h1, .ref h2, .ref h3, .int 0, .int 0, .int 0]))] := hD
  refine lv_aload_n hx hb dX1_clear_10 rfl (lv_at hl 0 rfl) ?_
  refine lv_iconst (v := 0) hx hb dX1_clear_11 (by decide) ?_
  refine va_put (D := (dC, dI)) (ci := 1) (v := .int 0) (ty := .int) (C := RX1) (T := TX1) (N := 6) hx hb hts inAll_1 tyX1 tyX1_ok nmX1 hown hK hP hD hS 0 rfl rfl 5 (by decide) (hts (.fieldLink RX1 34 "LoopEnvelopes$Frames" "stage" "I") k_42) (fun _ h9 => h9) rfl (by decide +kernel) rfl rfl (Nat.le_of_ble_eq_true rfl) dX1_clear_12 (fun H locs hP hD hS => ?_)
  have hP : va_P (dC, dI) vwCl [(a0, .inr (1, [.ref h1, .ref h2, .ref h3, .int 0, .int 0, .int 0]))] H := hP
  have hD : va_D A [(a0, .inr (1, [.ref h1, .ref h2, .ref h3, .int 0, .int 0, .int 0]))] := hD
  have hP9 := hP.sub (ws' := [(a0, .inr (1, [.ref h1, .ref h2, .ref h3, .int 0, .int 0, .int 0]))]) [0] rfl
  have hD9 := hD.sub (ws' := [(a0, .inr (1, [.ref h1, .ref h2, .ref h3, .int 0, .int 0, .int 0]))]) [0] (by decide) rfl
  have hK9 := hK.sub (tys' := []) [] rfl
  exact W.vret hx hb hr (fun t ht hW => ⟨⟨(), rfl, trivial, by rw [ht]; exact hP9, va_K.moved hW.alike hK9, hD9⟩, hS.F ht⟩) hS.2.2 dX1_clear_15

set_option maxHeartbeats 4000000 in
set_option maxRecDepth 100000 in
/-- tell(finding, at) -/
theorem c_X6_tell (l : Launch) (dC : Nat → ClassId) (dI : Nat → Nat → Nat) (sz : Nat) (a0 : Nat) (a1 : Nat) (a2 : Nat) (a3 : Nat) (a4 : Nat) (a5 : Nat) (fi : Int32) (pl : Int32) : Met l yX6_tell pwX6_tell ({ frames := 0, cells := 0, slots := 0, locals := 0 } : Room) (va_Pc [.ref a0, .int fi, .int pl] (fun U => U.heap.size = sz ∧ va_P (dC, dI) vwCl [(a0, .inr (6, [.ref a1, .ref a2, .ref a3, .ref a4, .ref a5, .int (-1), .int 0]))] U.heap ∧ va_K (dC, dI) vwCl [] U ∧ va_D (fun _ => True) [(a0, .inr (6, [.ref a1, .ref a2, .ref a3, .ref a4, .ref a5, .int (-1), .int 0]))])) (va_Qi (fun (r : Int32) (_ : Unit) => r = fi) (fun (_ : Unit) (t : State) => va_P (dC, dI) vwCl [(a0, .inr (6, [.ref a1, .ref a2, .ref a3, .ref a4, .ref a5, .int pl, .int 0]))] t.heap ∧ va_K (dC, dI) vwCl [] t ∧ va_D (va_A [(a0, .inr (6, [.ref a1, .ref a2, .ref a3, .ref a4, .ref a5, .int (-1), .int 0]))] sz) [(a0, .inr (6, [.ref a1, .ref a2, .ref a3, .ref a4, .ref a5, .int pl, .int 0]))]) (va_A [(a0, .inr (6, [.ref a1, .ref a2, .ref a3, .ref a4, .ref a5, .int (-1), .int 0]))] sz)) 0 0 (va_A [(a0, .inr (6, [.ref a1, .ref a2, .ref a3, .ref a4, .ref a5, .int (-1), .int 0]))] sz) := by
  refine Met.ofW (cc := cX6_tell) (maxL := 3) (ret := (some .int)) (by decide) rfl ?_
  intro p e s m args below meth c s₁ B hml hv
  obtain ⟨rfl, hsz, hP, hK, hD0⟩ := hv
  have hx := B.exec
  have hb := B.bytes
  have hr := B.returns
  have hts0 := atoms_spec (ws := pwX6_tell) B.pre
  have hts := fun w (h : w ∈ pwAll) => hts0 w (List.mem_cons_of_mem _ h)
  have hown : s.vm.findClass RX6 = some m.cls := findClass_of_methodNamed B.named
  have hlocks := B.notSynchronized
  subst hsz
  have hD := hD0.self (sz := s.heap.size)
  generalize hAe : va_A [(a0, .inr (6, [.ref a1, .ref a2, .ref a3, .ref a4, .ref a5, .int (-1), .int 0]))] s.heap.size = A at hD ⊢
  have hA : ∀ q : Nat, s.heap.size ≤ q → A q := fun q h => by rw [← hAe]; exact Or.inr h
  have hS : va_S A s.heap s.heap [] := va_S.rf
  have hP : va_P (dC, dI) vwCl [(a0, .inr (6, [.ref a1, .ref a2, .ref a3, .ref a4, .ref a5, .int (-1), .int 0]))] s.heap := hP
  have hl := lv_entry ([.ref a0, .int fi, .int pl]) (n := 3) (Nat.le_of_ble_eq_true rfl)
  rw [lg_entry_eq]
  generalize (lg_sl ([.ref a0, .int fi, .int pl]) ++ List.replicate (3 - (lg_sl ([.ref a0, .int fi, .int pl])).length) Slot.unset).toArray = ls at hl ⊢
  have hl : lv_has ls 3 [(0, .ref a0), (1, .int fi), (2, .int pl)] := hl
  refine lv_aload_n hx hb dX6_tell_0 rfl (lv_at hl 0 rfl) ?_
  refine lv_iload_n hx hb dX6_tell_1 rfl (lv_at hl 2 rfl) ?_
  refine va_put (D := (dC, dI)) (ci := 6) (v := .int pl) (ty := .int) (C := RX6) (T := TX6) (N := 7) hx hb hts inAll_6 tyX6 tyX6_ok nmX6 hown hK hP hD hS 0 rfl rfl 5 (by decide) (hts (.fieldLink RX6 50 "LoopEnvelopes" "place" "I") k_89) (fun _ h9 => h9) rfl (by decide +kernel) rfl rfl (Nat.le_of_ble_eq_true rfl) dX6_tell_2 (fun H locs hP hD hS => ?_)
  have hP : va_P (dC, dI) vwCl [(a0, .inr (6, [.ref a1, .ref a2, .ref a3, .ref a4, .ref a5, .int pl, .int 0]))] H := hP
  have hD : va_D A [(a0, .inr (6, [.ref a1, .ref a2, .ref a3, .ref a4, .ref a5, .int pl, .int 0]))] := hD
  refine lv_iload_n hx hb dX6_tell_5 rfl (lv_at hl 1 rfl) ?_
  have hP9 := hP.sub (ws' := [(a0, .inr (6, [.ref a1, .ref a2, .ref a3, .ref a4, .ref a5, .int pl, .int 0]))]) [0] rfl
  have hD9 := hD.sub (ws' := [(a0, .inr (6, [.ref a1, .ref a2, .ref a3, .ref a4, .ref a5, .int pl, .int 0]))]) [0] (by decide) rfl
  have hK9 := hK.sub (tys' := []) [] rfl
  exact W.iret (v := fi) hx hb hr (fun t ht hW => ⟨⟨fi, (), rfl, rfl, by rw [ht]; exact hP9, va_K.moved hW.alike hK9, hD9⟩, hS.F ht⟩) hS.2.2 dX6_tell_6

set_option maxHeartbeats 4000000 in
set_option maxRecDepth 100000 in
theorem c_X5_at (l : Launch) (dC : Nat → ClassId) (dI : Nat → Nat → Nat) (sz : Nat) (a0 : Nat) (h4 : Nat) (b5 : Nat) (yc : Nat) (ix : Int32) : Met l yX5_at pwX5_at ({ frames := 1, cells := 0, slots := 0, locals := 21 } : Room) (va_Pc [.ref a0, .int ix] (fun U => U.heap.size = sz ∧ va_P (dC, dI) vwCl [(a0, .inr (5, [.ref h4, .ref b5, .int 0])), (b5, .inr (0, [.ref yc, .int 0]))] U.heap ∧ va_K (dC, dI) vwCl [] U ∧ va_D (fun _ => True) [(a0, .inr (5, [.ref h4, .ref b5, .int 0])), (b5, .inr (0, [.ref yc, .int 0]))])) (va_Qi (fun (r : Int32) (_ : Unit) => r = (-1)) (fun (_ : Unit) (t : State) => va_P (dC, dI) vwCl [(a0, .inr (5, [.ref h4, .ref b5, .int 0])), (b5, .inr (0, [.ref yc, .int 0]))] t.heap ∧ va_K (dC, dI) vwCl [] t ∧ va_D (va_A [(a0, .inr (5, [.ref h4, .ref b5, .int 0])), (b5, .inr (0, [.ref yc, .int 0]))] sz) [(a0, .inr (5, [.ref h4, .ref b5, .int 0])), (b5, .inr (0, [.ref yc, .int 0]))]) (va_A [(a0, .inr (5, [.ref h4, .ref b5, .int 0])), (b5, .inr (0, [.ref yc, .int 0]))] sz)) 0 0 (va_A [(a0, .inr (5, [.ref h4, .ref b5, .int 0])), (b5, .inr (0, [.ref yc, .int 0]))] sz) := by
  refine Met.ofW (cc := cX5_at) (maxL := 2) (ret := (some .int)) (by decide) rfl ?_
  intro p e s m args below meth c s₁ B hml hv
  obtain ⟨rfl, hsz, hP, hK, hD0⟩ := hv
  have hx := B.exec
  have hb := B.bytes
  have hr := B.returns
  have hts0 := atoms_spec (ws := pwX5_at) B.pre
  have hts := fun w (h : w ∈ pwAll) => hts0 w (List.mem_cons_of_mem _ h)
  have hown : s.vm.findClass RX5 = some m.cls := findClass_of_methodNamed B.named
  have hlocks := B.notSynchronized
  subst hsz
  have hD := hD0.self (sz := s.heap.size)
  generalize hAe : va_A [(a0, .inr (5, [.ref h4, .ref b5, .int 0])), (b5, .inr (0, [.ref yc, .int 0]))] s.heap.size = A at hD ⊢
  have hA : ∀ q : Nat, s.heap.size ≤ q → A q := fun q h => by rw [← hAe]; exact Or.inr h
  have hS : va_S A s.heap s.heap [] := va_S.rf
  have hP : va_P (dC, dI) vwCl [(a0, .inr (5, [.ref h4, .ref b5, .int 0])), (b5, .inr (0, [.ref yc, .int 0]))] s.heap := hP
  have hl := lv_entry ([.ref a0, .int ix]) (n := 2) (Nat.le_of_ble_eq_true rfl)
  rw [lg_entry_eq]
  generalize (lg_sl ([.ref a0, .int ix]) ++ List.replicate (2 - (lg_sl ([.ref a0, .int ix])).length) Slot.unset).toArray = ls at hl ⊢
  have hl : lv_has ls 2 [(0, .ref a0), (1, .int ix)] := hl
  refine lv_aload_n hx hb dX5_at_0 rfl (lv_at hl 0 rfl) ?_
  refine va_get (D := (dC, dI)) (ci := 5) (v := .ref b5) (C := RX5) (T := TX5) (N := 3) hx hb hts inAll_5 hown hK hP 0 rfl rfl 1 (by decide) (hts (.fieldLink RX5 20 "LoopEnvelopes$Writer" "bytes" "LLoopEnvelopes$Bytes;") k_55) (fun _ h9 => h9) rfl dX5_at_1 ?_
  refine lv_iload_n hx hb dX5_at_4 rfl (lv_at hl 1 rfl) ?_
  have hPc := hP.sub (ws' := [(b5, .inr (0, [.ref yc, .int 0]))]) [1] rfl
  have hDc := hD.sub (ws' := [(b5, .inr (0, [.ref yc, .int 0]))]) [1] (by decide) rfl
  have hKc := hK.sub (tys' := []) [] rfl
  have hFc := va_free (wc := [(b5, .inr (0, [.ref yc, .int 0]))]) hD hS hA [1] rfl
  refine va_calli (va_runV (As := [.int ix]) (rest := []) ⟨hx, hb, hml, hown, hts⟩ (c_X0_at0 l dC dI s.heap.size b5 yc ix) (cwV 1 hts gg_RX5_32 rfl rfl rfl (by decide +kernel) ⟨Nat.le_of_ble_eq_true rfl, Nat.le_of_ble_eq_true rfl⟩) ⟨fun a U g mk q => by obtain ⟨q0, q1, qP, qK, qD⟩ := q; exact ⟨q0, q1, qP, va_K.moved (u := U) (U := U.calling g mk a) (Vm.Alike.refl U.vm) qK, qD⟩, va_recv hK hP (ci := 0) (q0 := 1) rfl rfl, fun U hU hW => ⟨rfl, by rw [hU], by rw [hU]; exact hPc, va_K.moved hW.alike hKc, hDc.weaken (fun _ _ _ _ => trivial)⟩⟩ rfl rfl hl.1 rfl (lv_room (Nat.le_of_ble_eq_true rfl)) dX5_at_5 ⟨Nat.le_of_ble_eq_true rfl, Nat.le_of_ble_eq_true rfl⟩) hS (fun q _ h => hFc q h) hFc (fun r1 u t H1 locs ht hvm hw hB hz1 hk1 hS => ?_)
  obtain ⟨hP1, hK1, hD1⟩ := hB
  rw [ht] at hP1
  have hK1 := va_K.moved hvm.symm hK1
  obtain ⟨hP, hD⟩ := va_join (wr := [(a0, .inr (5, [.ref h4, .ref b5, .int 0]))]) (w1 := [(b5, .inr (0, [.ref yc, .int 0]))]) hP hD [1] [0] rfl rfl (by decide) (by decide) hk1 hFc hP1 hD1
  have hK := (hK.sub (tys' := []) [] rfl).app hK1
  generalize H1 = H at hP hS ⊢
  have hP : va_P (dC, dI) vwCl [(a0, .inr (5, [.ref h4, .ref b5, .int 0])), (b5, .inr (0, [.ref yc, .int 0]))] H := hP
  have hD : va_D A [(a0, .inr (5, [.ref h4, .ref b5, .int 0])), (b5, .inr (0, [.ref yc, .int 0]))] := hD
  have hK : va_K (dC, dI) vwCl [] s := hK
  have hw : r1 = (-1) := hw
  subst hw
  have hP9 := hP.sub (ws' := [(a0, .inr (5, [.ref h4, .ref b5, .int 0])), (b5, .inr (0, [.ref yc, .int 0]))]) [0, 1] rfl
  have hD9 := hD.sub (ws' := [(a0, .inr (5, [.ref h4, .ref b5, .int 0])), (b5, .inr (0, [.ref yc, .int 0]))]) [0, 1] (by decide) rfl
  have hK9 := hK.sub (tys' := []) [] rfl
  exact W.iret (v := (-1)) hx hb hr (fun t ht hW => ⟨⟨(-1), (), rfl, rfl, by rw [ht]; exact hP9, va_K.moved hW.alike hK9, hD9⟩, hS.F ht⟩) hS.2.2 dX5_at_8

set_option maxHeartbeats 4000000 in
set_option maxRecDepth 100000 in
theorem c_X5_length (l : Launch) (dC : Nat → ClassId) (dI : Nat → Nat → Nat) (sz : Nat) (a0 : Nat) (h4 : Nat) (b5 : Nat) (yc : Nat) : Met l yX5_length pwX5_length ({ frames := 1, cells := 0, slots := 0, locals := 20 } : Room) (va_Pc [.ref a0] (fun U => U.heap.size = sz ∧ va_P (dC, dI) vwCl [(a0, .inr (5, [.ref h4, .ref b5, .int 0])), (b5, .inr (0, [.ref yc, .int 0]))] U.heap ∧ va_K (dC, dI) vwCl [] U ∧ va_D (fun _ => True) [(a0, .inr (5, [.ref h4, .ref b5, .int 0])), (b5, .inr (0, [.ref yc, .int 0]))])) (va_Qi (fun (r : Int32) (_ : Unit) => r = 0) (fun (_ : Unit) (t : State) => va_P (dC, dI) vwCl [(a0, .inr (5, [.ref h4, .ref b5, .int 0])), (b5, .inr (0, [.ref yc, .int 0]))] t.heap ∧ va_K (dC, dI) vwCl [] t ∧ va_D (va_A [(a0, .inr (5, [.ref h4, .ref b5, .int 0])), (b5, .inr (0, [.ref yc, .int 0]))] sz) [(a0, .inr (5, [.ref h4, .ref b5, .int 0])), (b5, .inr (0, [.ref yc, .int 0]))]) (va_A [(a0, .inr (5, [.ref h4, .ref b5, .int 0])), (b5, .inr (0, [.ref yc, .int 0]))] sz)) 0 0 (va_A [(a0, .inr (5, [.ref h4, .ref b5, .int 0])), (b5, .inr (0, [.ref yc, .int 0]))] sz) := by
  refine Met.ofW (cc := cX5_length) (maxL := 1) (ret := (some .int)) (by decide) rfl ?_
  intro p e s m args below meth c s₁ B hml hv
  obtain ⟨rfl, hsz, hP, hK, hD0⟩ := hv
  have hx := B.exec
  have hb := B.bytes
  have hr := B.returns
  have hts0 := atoms_spec (ws := pwX5_length) B.pre
  have hts := fun w (h : w ∈ pwAll) => hts0 w (List.mem_cons_of_mem _ h)
  have hown : s.vm.findClass RX5 = some m.cls := findClass_of_methodNamed B.named
  have hlocks := B.notSynchronized
  subst hsz
  have hD := hD0.self (sz := s.heap.size)
  generalize hAe : va_A [(a0, .inr (5, [.ref h4, .ref b5, .int 0])), (b5, .inr (0, [.ref yc, .int 0]))] s.heap.size = A at hD ⊢
  have hA : ∀ q : Nat, s.heap.size ≤ q → A q := fun q h => by rw [← hAe]; exact Or.inr h
  have hS : va_S A s.heap s.heap [] := va_S.rf
  have hP : va_P (dC, dI) vwCl [(a0, .inr (5, [.ref h4, .ref b5, .int 0])), (b5, .inr (0, [.ref yc, .int 0]))] s.heap := hP
  have hl := lv_entry ([.ref a0]) (n := 1) (Nat.le_of_ble_eq_true rfl)
  rw [lg_entry_eq]
  generalize (lg_sl ([.ref a0]) ++ List.replicate (1 - (lg_sl ([.ref a0])).length) Slot.unset).toArray = ls at hl ⊢
  have hl : lv_has ls 1 [(0, .ref a0)] := hl
  refine lv_aload_n hx hb dX5_length_0 rfl (lv_at hl 0 rfl) ?_
  refine va_get (D := (dC, dI)) (ci := 5) (v := .ref b5) (C := RX5) (T := TX5) (N := 3) hx hb hts inAll_5 hown hK hP 0 rfl rfl 1 (by decide) (hts (.fieldLink RX5 20 "LoopEnvelopes$Writer" "bytes" "LLoopEnvelopes$Bytes;") k_55) (fun _ h9 => h9) rfl dX5_length_1 ?_
  have hPc := hP.sub (ws' := [(b5, .inr (0, [.ref yc, .int 0]))]) [1] rfl
  have hDc := hD.sub (ws' := [(b5, .inr (0, [.ref yc, .int 0]))]) [1] (by decide) rfl
  have hKc := hK.sub (tys' := []) [] rfl
  have hFc := va_free (wc := [(b5, .inr (0, [.ref yc, .int 0]))]) hD hS hA [1] rfl
  refine va_calli (va_runV (As := []) (rest := []) ⟨hx, hb, hml, hown, hts⟩ (c_X0_length l dC dI s.heap.size b5 yc 0) (cwV 0 hts gg_RX5_28 rfl rfl rfl (by decide +kernel) ⟨Nat.le_of_ble_eq_true rfl, Nat.le_of_ble_eq_true rfl⟩) ⟨fun a U g mk q => by obtain ⟨q0, q1, qP, qK, qD⟩ := q; exact ⟨q0, q1, qP, va_K.moved (u := U) (U := U.calling g mk a) (Vm.Alike.refl U.vm) qK, qD⟩, va_recv hK hP (ci := 0) (q0 := 1) rfl rfl, fun U hU hW => ⟨rfl, by rw [hU], by rw [hU]; exact hPc, va_K.moved hW.alike hKc, hDc.weaken (fun _ _ _ _ => trivial)⟩⟩ rfl rfl hl.1 rfl (lv_room (Nat.le_of_ble_eq_true rfl)) dX5_length_4 ⟨Nat.le_of_ble_eq_true rfl, Nat.le_of_ble_eq_true rfl⟩) hS (fun q _ h => hFc q h) hFc (fun r1 u t H1 locs ht hvm hw hB hz1 hk1 hS => ?_)
  obtain ⟨hP1, hK1, hD1⟩ := hB
  rw [ht] at hP1
  have hK1 := va_K.moved hvm.symm hK1
  obtain ⟨hP, hD⟩ := va_join (wr := [(a0, .inr (5, [.ref h4, .ref b5, .int 0]))]) (w1 := [(b5, .inr (0, [.ref yc, .int 0]))]) hP hD [1] [0] rfl rfl (by decide) (by decide) hk1 hFc hP1 hD1
  have hK := (hK.sub (tys' := []) [] rfl).app hK1
  generalize H1 = H at hP hS ⊢
  have hP : va_P (dC, dI) vwCl [(a0, .inr (5, [.ref h4, .ref b5, .int 0])), (b5, .inr (0, [.ref yc, .int 0]))] H := hP
  have hD : va_D A [(a0, .inr (5, [.ref h4, .ref b5, .int 0])), (b5, .inr (0, [.ref yc, .int 0]))] := hD
  have hK : va_K (dC, dI) vwCl [] s := hK
  have hw : r1 = 0 := hw
  subst hw
  have hP9 := hP.sub (ws' := [(a0, .inr (5, [.ref h4, .ref b5, .int 0])), (b5, .inr (0, [.ref yc, .int 0]))]) [0, 1] rfl
  have hD9 := hD.sub (ws' := [(a0, .inr (5, [.ref h4, .ref b5, .int 0])), (b5, .inr (0, [.ref yc, .int 0]))]) [0, 1] (by decide) rfl
  have hK9 := hK.sub (tys' := []) [] rfl
  exact W.iret (v := 0) hx hb hr (fun t ht hW => ⟨⟨0, (), rfl, rfl, by rw [ht]; exact hP9, va_K.moved hW.alike hK9, hD9⟩, hS.F ht⟩) hS.2.2 dX5_length_7
