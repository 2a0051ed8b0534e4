set_option maxHeartbeats 4000000 in
set_option maxRecDepth 100000 in
/-- Bytes(room): a row of so many bytes -/
theorem c_X0_init (l : Launch) (dC : Nat → ClassId) (dI : Nat → Nat → Nat) (sz : Nat) (a0 : Nat) (room : Int32) (n : Nat) (g1 : ¬ room < 0) (g2 : room.toNatClampNeg = n) (g3 : n ≤ 2000) : Met l yX0_init pwX0_init ({ frames := 1, cells := 1, slots := n, locals := 20 } : Room) (va_Pc [.ref a0, .int room] (fun U => U.heap.size = sz ∧ va_P (dC, dI) vwCl [(a0, .inr (0, [.null, .int 0]))] U.heap ∧ va_K (dC, dI) vwCl [] U ∧ va_D (fun _ => True) [(a0, .inr (0, [.null, .int 0]))])) (va_Qv (fun _ : Unit => True) (fun (_ : Unit) (t : State) => ∃ (qa : Nat) (cA : ClassId), va_P (dC, dI) vwCl [(a0, .inr (0, [.ref qa, .int 0])), (qa, .inl (cA, n, .inl (fun _ => 0)))] t.heap ∧ va_K (dC, dI) vwCl [(cA, .byte)] t ∧ va_D (va_A [(a0, .inr (0, [.null, .int 0]))] sz) [(a0, .inr (0, [.ref qa, .int 0])), (qa, .inl (cA, n, .inl (fun _ => 0)))]) (va_A [(a0, .inr (0, [.null, .int 0]))] sz)) 1 n (va_A [(a0, .inr (0, [.null, .int 0]))] sz) := by
  refine Met.ofW (cc := cX0_init) (maxL := 2) (ret := none) (by decide) rfl ?_
  intro p e s m args below meth c s₁ B hml hv
  obtain ⟨rfl, hsz, hP, hK, hD0⟩ := hv
  have hx := B.exec
  have hb := B.bytes
  have hr := B.returns
  have hts0 := atoms_spec (ws := pwX0_init) B.pre
  have hts := fun w (h : w ∈ pwAll) => hts0 w (List.mem_cons_of_mem _ h)
  have hown : s.vm.findClass RX0 = some m.cls := findClass_of_methodNamed B.named
  have hlocks := B.notSynchronized
  have hin : meth.name = "<init>" := (name_of_methodNamed B.named B.method).1
  subst hsz
  have hD := hD0.self (sz := s.heap.size)
  generalize hAe : va_A [(a0, .inr (0, [.null, .int 0]))] s.heap.size = A at hD ⊢
  have hA : ∀ q : Nat, s.heap.size ≤ q → A q := fun q h => by rw [← hAe]; exact Or.inr h
  have hS : va_S A s.heap s.heap [] := va_S.rf
  have hP : va_P (dC, dI) vwCl [(a0, .inr (0, [.null, .int 0]))] s.heap := hP
  have hl := lv_entry ([.ref a0, .int room]) (n := 2) (Nat.le_of_ble_eq_true rfl)
  rw [lg_entry_eq]
  generalize (lg_sl ([.ref a0, .int room]) ++ List.replicate (2 - (lg_sl ([.ref a0, .int room])).length) Slot.unset).toArray = ls at hl ⊢
  have hl : lv_has ls 2 [(0, .ref a0), (1, .int room)] := hl
  refine lv_aload_n hx hb dX0_init_0 rfl (lv_at hl 0 rfl) ?_
  refine W.objInit hx hb hown (hts (.methodLink RX0 3 objectInit) k_0) (hts (.instanceMethod objectInit) k_1) (hts (.code objectInit ⟨#[0xb1]⟩ 1 none) k_2) rfl (by rw [hml]; exact hl.1) rfl dX0_init_1 (Nat.le_of_ble_eq_true rfl) (Nat.le_of_ble_eq_true rfl) ?_
  refine W.eq (g2 := F0 m 4 ls []) rfl ?_
  refine lv_aload_n hx hb dX0_init_4 rfl (lv_at hl 0 rfl) ?_
  refine lv_iload_n hx hb dX0_init_5 rfl (lv_at hl 1 rfl) ?_
  refine lv_iconst (v := 0) hx hb dX0_init_6 (by decide) ?_
  refine va_mmax hx hb (by rw [hml]; exact hl.1.symm) hown (hts (.methodLink RX0 9 Lib.Math.max.name) k_3) (hts (.static Lib.Math.max.name) k_4) (hts (.initialized "java/lang/Math") k_5) (hts (.code Lib.Math.max.name Lib.Math.max.code 2 (some .int)) k_6) (Nat.le_of_ble_eq_true rfl) (Nat.le_of_ble_eq_true rfl) (Nat.zero_le _) (Nat.zero_le _) dX0_init_7 ?_
  refine pf_top (y := room) (if_neg g1) ?_
  refine va_newa (atype := .byte) (ty := .byte) (a0 := (n, .inl (fun _ => 0))) (n := room) (N' := n) hx hb (hts (.arrayClass .byte) k_7) rfl hK hP hD hS hA (fun _ => rfl) (g1) (g2) (by show n * 1 ≤ 536870912; omega) (Nat.le_of_ble_eq_true rfl) (by show 0 + n ≤ n; omega) dX0_init_10 (fun q1 cA2 H hK hP hD hS => ?_)
  have hP : va_P (dC, dI) vwCl [(a0, .inr (0, [.null, .int 0])), (q1, .inl (cA2, n, .inl (fun _ => 0)))] H := hP
  have hD : va_D A [(a0, .inr (0, [.null, .int 0])), (q1, .inl (cA2, n, .inl (fun _ => 0)))] := hD
  have hK : va_K (dC, dI) vwCl [(cA2, .byte)] s := hK
  refine W.widen (k := 1) (n := n) (by omega) (by omega) ?_
  refine va_putF (D := (dC, dI)) (ci := 0) (v := .ref q1) (ty := .array .byte) (C := RX0) (T := TX0) (N := 2) hx hb hts inAll_0 tyX0 tyX0_ok nmX0 hown hK hP hD hS 0 rfl rfl 0 (by decide) (hts (.fieldLink RX0 15 "LoopEnvelopes$Bytes" "cells" "[B") k_8) (fun _ h9 => h9) rfl hin rfl (by decide +kernel) rfl rfl (Nat.le_of_ble_eq_true rfl) dX0_init_12 (fun H locs hP hD hS => ?_)
  have hP : va_P (dC, dI) vwCl [(a0, .inr (0, [.ref q1, .int 0])), (q1, .inl (cA2, n, .inl (fun _ => 0)))] H := hP
  have hD : va_D A [(a0, .inr (0, [.ref q1, .int 0])), (q1, .inl (cA2, n, .inl (fun _ => 0)))] := hD
  refine lv_aload_n hx hb dX0_init_15 rfl (lv_at hl 0 rfl) ?_
  refine lv_iconst (v := 0) hx hb dX0_init_16 (by decide) ?_
  refine va_put (D := (dC, dI)) (ci := 0) (v := .int 0) (ty := .int) (C := RX0) (T := TX0) (N := 2) hx hb hts inAll_0 tyX0 tyX0_ok nmX0 hown hK hP hD hS 0 rfl rfl 1 (by decide) (hts (.fieldLink RX0 21 "LoopEnvelopes$Bytes" "used" "I") k_9) (fun _ h9 => h9) rfl (by decide +kernel) rfl rfl (Nat.le_of_ble_eq_true rfl) dX0_init_17 (fun H locs hP hD hS => ?_)
  have hP : va_P (dC, dI) vwCl [(a0, .inr (0, [.ref q1, .int 0])), (q1, .inl (cA2, n, .inl (fun _ => 0)))] H := hP
  have hD : va_D A [(a0, .inr (0, [.ref q1, .int 0])), (q1, .inl (cA2, n, .inl (fun _ => 0)))] := hD
  have hP9 := hP.sub (ws' := [(a0, .inr (0, [.ref q1, .int 0])), (q1, .inl (cA2, n, .inl (fun _ => 0)))]) [0, 1] rfl
  have hD9 := hD.sub (ws' := [(a0, .inr (0, [.ref q1, .int 0])), (q1, .inl (cA2, n, .inl (fun _ => 0)))]) [0, 1] (by decide) rfl
  have hK9 := hK.sub (tys' := [(cA2, .byte)]) [0] rfl
  refine W.widen (k := 1) (n := n) (by omega) (by omega) ?_
  exact W.vret hx hb hr (fun t ht hW => ⟨⟨(), rfl, trivial, q1, cA2, by rw [ht]; exact hP9, va_K.moved hW.alike hK9, hD9⟩, hS.F ht⟩) hS.2.2 dX0_init_20

set_option maxHeartbeats 4000000 in
set_option maxRecDepth 100000 in
/-- Table(rows, cols) -/
theorem c_X4_init (l : Launch) (dC : Nat → ClassId) (dI : Nat → Nat → Nat) (sz : Nat) (a0 : Nat) (rows : Int32) (cols : Int32) (n : Nat) (g1 : ¬ rows * cols < 0) (g2 : (rows * cols).toNatClampNeg = n) (g3 : n ≤ 2000) : Met l yX4_init pwX4_init ({ frames := 1, cells := 1, slots := n, locals := 20 } : Room) (va_Pc [.ref a0, .int rows, .int cols] (fun U => U.heap.size = sz ∧ va_P (dC, dI) vwCl [(a0, .inr (4, [.int 0, .int 0, .null]))] U.heap ∧ va_K (dC, dI) vwCl [] U ∧ va_D (fun _ => True) [(a0, .inr (4, [.int 0, .int 0, .null]))])) (va_Qv (fun _ : Unit => True) (fun (_ : Unit) (t : State) => va_P (dC, dI) vwCl [] t.heap ∧ va_K (dC, dI) vwCl [] t ∧ va_D (va_A [(a0, .inr (4, [.int 0, .int 0, .null]))] sz) []) (va_A [(a0, .inr (4, [.int 0, .int 0, .null]))] sz)) 1 n (va_A [(a0, .inr (4, [.int 0, .int 0, .null]))] sz) := by
  refine Met.ofW (cc := cX4_init) (maxL := 3) (ret := none) (by decide) rfl ?_
  intro p e s m args below meth c s₁ B hml hv
  obtain ⟨rfl, hsz, hP, hK, hD0⟩ := hv
  have hx := B.exec
  have hb := B.bytes
  have hr := B.returns
  have hts0 := atoms_spec (ws := pwX4_init) B.pre
  have hts := fun w (h : w ∈ pwAll) => hts0 w (List.mem_cons_of_mem _ h)
  have hown : s.vm.findClass RX4 = some m.cls := findClass_of_methodNamed B.named
  have hlocks := B.notSynchronized
  have hin : meth.name = "<init>" := (name_of_methodNamed B.named B.method).1
  subst hsz
  have hD := hD0.self (sz := s.heap.size)
  generalize hAe : va_A [(a0, .inr (4, [.int 0, .int 0, .null]))] s.heap.size = A at hD ⊢
  have hA : ∀ q : Nat, s.heap.size ≤ q → A q := fun q h => by rw [← hAe]; exact Or.inr h
  have hS : va_S A s.heap s.heap [] := va_S.rf
  have hP : va_P (dC, dI) vwCl [(a0, .inr (4, [.int 0, .int 0, .null]))] s.heap := hP
  have hl := lv_entry ([.ref a0, .int rows, .int cols]) (n := 3) (Nat.le_of_ble_eq_true rfl)
  rw [lg_entry_eq]
  generalize (lg_sl ([.ref a0, .int rows, .int cols]) ++ List.replicate (3 - (lg_sl ([.ref a0, .int rows, .int cols])).length) Slot.unset).toArray = ls at hl ⊢
  have hl : lv_has ls 3 [(0, .ref a0), (1, .int rows), (2, .int cols)] := hl
  refine lv_aload_n hx hb dX4_init_0 rfl (lv_at hl 0 rfl) ?_
  refine W.objInit hx hb hown (hts (.methodLink RX4 3 objectInit) k_10) (hts (.instanceMethod objectInit) k_1) (hts (.code objectInit ⟨#[0xb1]⟩ 1 none) k_2) rfl (by rw [hml]; exact hl.1) rfl dX4_init_1 (Nat.le_of_ble_eq_true rfl) (Nat.le_of_ble_eq_true rfl) ?_
  refine W.eq (g2 := F0 m 4 ls []) rfl ?_
  refine lv_aload_n hx hb dX4_init_4 rfl (lv_at hl 0 rfl) ?_
  refine lv_iload_n hx hb dX4_init_5 rfl (lv_at hl 1 rfl) ?_
  refine va_putF (D := (dC, dI)) (ci := 4) (v := .int rows) (ty := .int) (C := RX4) (T := TX4) (N := 3) hx hb hts inAll_4 tyX4 tyX4_ok nmX4 hown hK hP hD hS 0 rfl rfl 0 (by decide) (hts (.fieldLink RX4 9 "LoopEnvelopes$Table" "rows" "I") k_11) (fun _ h9 => h9) rfl hin rfl (by decide +kernel) rfl rfl (Nat.le_of_ble_eq_true rfl) dX4_init_6 (fun H locs hP hD hS => ?_)
  have hP : va_P (dC, dI) vwCl [(a0, .inr (4, [.int rows, .int 0, .null]))] H := hP
  have hD : va_D A [(a0, .inr (4, [.int rows, .int 0, .null]))] := hD
  refine lv_aload_n hx hb dX4_init_9 rfl (lv_at hl 0 rfl) ?_
  refine lv_iload_n hx hb dX4_init_10 rfl (lv_at hl 2 rfl) ?_
  refine va_putF (D := (dC, dI)) (ci := 4) (v := .int cols) (ty := .int) (C := RX4) (T := TX4) (N := 3) hx hb hts inAll_4 tyX4 tyX4_ok nmX4 hown hK hP hD hS 0 rfl rfl 1 (by decide) (hts (.fieldLink RX4 15 "LoopEnvelopes$Table" "columns" "I") k_12) (fun _ h9 => h9) rfl hin rfl (by decide +kernel) rfl rfl (Nat.le_of_ble_eq_true rfl) dX4_init_11 (fun H locs hP hD hS => ?_)
  have hP : va_P (dC, dI) vwCl [(a0, .inr (4, [.int rows, .int cols, .null]))] H := hP
  have hD : va_D A [(a0, .inr (4, [.int rows, .int cols, .null]))] := hD
  refine lv_aload_n hx hb dX4_init_14 rfl (lv_at hl 0 rfl) ?_
  refine lv_iload_n hx hb dX4_init_15 rfl (lv_at hl 1 rfl) ?_
  refine lv_iload_n hx hb dX4_init_16 rfl (lv_at hl 2 rfl) ?_
  refine lv_imul hx hb dX4_init_17 ?_
  refine lv_iconst (v := 0) hx hb dX4_init_18 (by decide) ?_
  refine va_mmax hx hb (by rw [hml]; exact hl.1.symm) hown (hts (.methodLink RX4 18 Lib.Math.max.name) k_13) (hts (.static Lib.Math.max.name) k_4) (hts (.initialized "java/lang/Math") k_5) (hts (.code Lib.Math.max.name Lib.Math.max.code 2 (some .int)) k_6) (Nat.le_of_ble_eq_true rfl) (Nat.le_of_ble_eq_true rfl) (Nat.zero_le _) (Nat.zero_le _) dX4_init_19 ?_
  refine pf_top (y := (rows * cols)) (if_neg g1) ?_
  refine va_newa (atype := .int) (ty := .int) (a0 := (n, .inl (fun _ => 0))) (n := (rows * cols)) (N' := n) hx hb (hts (.arrayClass .int) k_14) rfl hK hP hD hS hA (fun _ => rfl) (g1) (g2) (by show n * 4 ≤ 536870912; omega) (Nat.le_of_ble_eq_true rfl) (by show 0 + n ≤ n; omega) dX4_init_22 (fun q1 cA2 H hK hP hD hS => ?_)
  have hP : va_P (dC, dI) vwCl [(a0, .inr (4, [.int rows, .int cols, .null])), (q1, .inl (cA2, n, .inl (fun _ => 0)))] H := hP
  have hD : va_D A [(a0, .inr (4, [.int rows, .int cols, .null])), (q1, .inl (cA2, n, .inl (fun _ => 0)))] := hD
  have hK : va_K (dC, dI) vwCl [(cA2, .int)] s := hK
  refine W.widen (k := 1) (n := n) (by omega) (by omega) ?_
  refine va_putF (D := (dC, dI)) (ci := 4) (v := .ref q1) (ty := .array .int) (C := RX4) (T := TX4) (N := 3) hx hb hts inAll_4 tyX4 tyX4_ok nmX4 hown hK hP hD hS 0 rfl rfl 2 (by decide) (hts (.fieldLink RX4 24 "LoopEnvelopes$Table" "cells" "[I") k_15) (fun _ h9 => h9) rfl hin rfl (by decide +kernel) rfl rfl (Nat.le_of_ble_eq_true rfl) dX4_init_24 (fun H locs hP hD hS => ?_)
  have hP : va_P (dC, dI) vwCl [(a0, .inr (4, [.int rows, .int cols, .ref q1])), (q1, .inl (cA2, n, .inl (fun _ => 0)))] H := hP
  have hD : va_D A [(a0, .inr (4, [.int rows, .int cols, .ref q1])), (q1, .inl (cA2, n, .inl (fun _ => 0)))] := hD
  have hP9 := hP.sub (ws' := []) [] rfl
  have hD9 := hD.sub (ws' := []) [] (by decide) rfl
  have hK9 := hK.sub (tys' := []) [] rfl
  refine W.widen (k := 1) (n := n) (by omega) (by omega) ?_
  exact W.vret hx hb hr (fun t ht hW => ⟨⟨(), rfl, trivial, by rw [ht]; exact hP9, va_K.moved hW.alike hK9, hD9⟩, hS.F ht⟩) hS.2.2 dX4_init_27

set_option maxHeartbeats 4000000 in
set_option maxRecDepth 100000 in
/-- Segments() -/
theorem c_X3_init (l : Launch) (dC : Nat → ClassId) (dI : Nat → Nat → Nat) (sz : Nat) (a0 : Nat) : Met l yX3_init pwX3_init ({ frames := 2, cells := 8, slots := 2651, locals := 42 } : Room) (va_Pc [.ref a0] (fun U => U.heap.size = sz ∧ va_P (dC, dI) vwCl [(a0, .inr (3, [.null, .null, .null, .null, .int 0]))] U.heap ∧ va_K (dC, dI) vwCl [] U ∧ va_D (fun _ => True) [(a0, .inr (3, [.null, .null, .null, .null, .int 0]))])) (va_Qv (fun _ : Unit => True) (fun (_ : Unit) (t : State) => ∃ (qb : Nat) (qa : Nat) (qc : Nat) (qd : Nat) (qe : Nat), va_P (dC, dI) vwCl [(a0, .inr (3, [.ref qb, .ref qc, .ref qd, .ref qe, .int 0])), (qb, .inr (0, [.ref qa, .int 0]))] t.heap ∧ va_K (dC, dI) vwCl [] t ∧ va_D (va_A [(a0, .inr (3, [.null, .null, .null, .null, .int 0]))] sz) [(a0, .inr (3, [.ref qb, .ref qc, .ref qd, .ref qe, .int 0])), (qb, .inr (0, [.ref qa, .int 0]))]) (va_A [(a0, .inr (3, [.null, .null, .null, .null, .int 0]))] sz)) 8 2651 (va_A [(a0, .inr (3, [.null, .null, .null, .null, .int 0]))] sz) := by
  refine Met.ofW (cc := cX3_init) (maxL := 1) (ret := none) (by decide) rfl ?_
  intro p e s m args below meth c s₁ B hml hv
  obtain ⟨rfl, hsz, hP, hK, hD0⟩ := hv
  have hx := B.exec
  have hb := B.bytes
  have hr := B.returns
  have hts0 := atoms_spec (ws := pwX3_init) B.pre
  have hts := fun w (h : w ∈ pwAll) => hts0 w (List.mem_cons_of_mem _ h)
  have hown : s.vm.findClass RX3 = some m.cls := findClass_of_methodNamed B.named
  have hlocks := B.notSynchronized
  have hin : meth.name = "<init>" := (name_of_methodNamed B.named B.method).1
  subst hsz
  have hD := hD0.self (sz := s.heap.size)
  generalize hAe : va_A [(a0, .inr (3, [.null, .null, .null, .null, .int 0]))] s.heap.size = A at hD ⊢
  have hA : ∀ q : Nat, s.heap.size ≤ q → A q := fun q h => by rw [← hAe]; exact Or.inr h
  have hS : va_S A s.heap s.heap [] := va_S.rf
  have hP : va_P (dC, dI) vwCl [(a0, .inr (3, [.null, .null, .null, .null, .int 0]))] s.heap := hP
  have hl := lv_entry ([.ref a0]) (n := 1) (Nat.le_of_ble_eq_true rfl)
  rw [lg_entry_eq]
  generalize (lg_sl ([.ref a0]) ++ List.replicate (1 - (lg_sl ([.ref a0])).length) Slot.unset).toArray = ls at hl ⊢
  have hl : lv_has ls 1 [(0, .ref a0)] := hl
  refine lv_aload_n hx hb dX3_init_0 rfl (lv_at hl 0 rfl) ?_
  refine W.objInit hx hb hown (hts (.methodLink RX3 3 objectInit) k_16) (hts (.instanceMethod objectInit) k_1) (hts (.code objectInit ⟨#[0xb1]⟩ 1 none) k_2) rfl (by rw [hml]; exact hl.1) rfl dX3_init_1 (Nat.le_of_ble_eq_true rfl) (Nat.le_of_ble_eq_true rfl) ?_
  refine W.eq (g2 := F0 m 4 ls []) rfl ?_
  refine lv_aload_n hx hb dX3_init_4 rfl (lv_at hl 0 rfl) ?_
  refine va_new (ci := 0) (fs := [.null, .int 0]) (C := RX0) (T := TX0) (N := 2) hx hb hts inAll_0 tyX0 tyX0_ok hown (hts (.classLink RX3 9 RX0) k_17) (hts (.instantiable RX0 2) k_18) (hts (.initialized RX0) k_19) hK hP hD hS hA rfl (fun j hj => by rcases (show j = 0 ∨ j = 1 by omega) with rfl | rfl <;> rfl) (Nat.le_of_ble_eq_true rfl) (Nat.le_of_ble_eq_true rfl) dX3_init_5 (fun q1 H hP hD hS => ?_)
  have hP : va_P (dC, dI) vwCl [(a0, .inr (3, [.null, .null, .null, .null, .int 0])), (q1, .inr (0, [.null, .int 0]))] H := hP
  have hD : va_D A [(a0, .inr (3, [.null, .null, .null, .null, .int 0])), (q1, .inr (0, [.null, .int 0]))] := hD
  refine W.widen (k := 1) (n := 2) (Nat.le_of_ble_eq_true rfl) (Nat.le_of_ble_eq_true rfl) ?_
  refine lv_dup hx hb dX3_init_8 rfl ?_
  refine lv_sipush (v := 1200) hx hb dX3_init_9 (by decide) ?_
  have hPc := hP.sub (ws' := [(q1, .inr (0, [.null, .int 0]))]) [1] rfl
  have hDc := hD.sub (ws' := [(q1, .inr (0, [.null, .int 0]))]) [1] (by decide) rfl
  have hKc := hK.sub (tys' := []) [] rfl
  have hFc := va_free (wc := [(q1, .inr (0, [.null, .int 0]))]) hD hS hA [1] rfl
  refine va_callv (va_runI (As := [.int 1200]) (rest := [.ref q1, .ref a0]) ⟨hx, hb, hml, hown, hts⟩ (c_X0_init l dC dI H.size q1 1200 1200 (by decide) (rfl) (Nat.le_of_ble_eq_true rfl)) (cwI 1 hts gg_i_X0_init rfl rfl rfl (hts (.initialized RX0) k_19) (hts (.methodLink RX3 11 yX0_init) k_21) (hts (.instanceMethod yX0_init) k_22) rfl (by decide +kernel) ⟨Nat.le_of_ble_eq_true rfl, Nat.le_of_ble_eq_true rfl⟩) ⟨fun a U g mk q => by obtain ⟨q0, q1, qP, qK, qD⟩ := q; exact ⟨q0, q1, qP, va_K.moved (u := U) (U := U.calling g mk a) (Vm.Alike.refl U.vm) qK, qD⟩, fun U hU hW => ⟨rfl, by rw [hU], by rw [hU]; exact hPc, va_K.moved hW.alike hKc, hDc.weaken (fun _ _ _ _ => trivial)⟩⟩ rfl rfl hl.1 rfl (lv_room (Nat.le_of_ble_eq_true rfl)) dX3_init_12 ⟨Nat.le_of_ble_eq_true rfl, Nat.le_of_ble_eq_true rfl⟩) hS (fun q _ h => hFc q h) hFc (fun u t H1 locs ht hvm hw hB hz1 hk1 hS => ?_)
  obtain ⟨qa3, cA4, hP1, hK1, hD1⟩ := hB
  rw [ht] at hP1
  have hK1 := va_K.moved hvm.symm hK1
  obtain ⟨hP, hD⟩ := va_join (wr := [(a0, .inr (3, [.null, .null, .null, .null, .int 0]))]) (w1 := [(q1, .inr (0, [.ref qa3, .int 0])), (qa3, .inl (cA4, 1200, .inl (fun _ => 0)))]) hP hD [1] [0] rfl rfl (by decide) (by decide) hk1 hFc hP1 hD1
  have hK := (hK.sub (tys' := []) [] rfl).app hK1
  generalize H1 = H at hP hS ⊢
  have hP : va_P (dC, dI) vwCl [(a0, .inr (3, [.null, .null, .null, .null, .int 0])), (q1, .inr (0, [.ref qa3, .int 0])), (qa3, .inl (cA4, 1200, .inl (fun _ => 0)))] H := hP
  have hD : va_D A [(a0, .inr (3, [.null, .null, .null, .null, .int 0])), (q1, .inr (0, [.ref qa3, .int 0])), (qa3, .inl (cA4, 1200, .inl (fun _ => 0)))] := hD
  have hK : va_K (dC, dI) vwCl [(cA4, .byte)] s := hK
  refine W.widen (k := 2) (n := 1202) (Nat.le_of_ble_eq_true rfl) (Nat.le_of_ble_eq_true rfl) ?_
  refine va_putF (D := (dC, dI)) (ci := 3) (v := .ref q1) (ty := .object "LoopEnvelopes$Bytes") (C := RX3) (T := TX3) (N := 5) hx hb hts inAll_3 tyX3 tyX3_ok nmX3 hown hK hP hD hS 0 rfl rfl 0 (by decide) (hts (.fieldLink RX3 14 "LoopEnvelopes$Segments" "bytes" "LLoopEnvelopes$Bytes;") k_23) (fun _ h9 => h9) rfl hin rfl (by decide +kernel) rfl rfl (Nat.le_of_ble_eq_true rfl) dX3_init_15 (fun H locs hP hD hS => ?_)
  have hP : va_P (dC, dI) vwCl [(a0, .inr (3, [.ref q1, .null, .null, .null, .int 0])), (q1, .inr (0, [.ref qa3, .int 0])), (qa3, .inl (cA4, 1200, .inl (fun _ => 0)))] H := hP
  have hD : va_D A [(a0, .inr (3, [.ref q1, .null, .null, .null, .int 0])), (q1, .inr (0, [.ref qa3, .int 0])), (qa3, .inl (cA4, 1200, .inl (fun _ => 0)))] := hD
  refine lv_aload_n hx hb dX3_init_18 rfl (lv_at hl 0 rfl) ?_
  refine va_new (ci := 4) (fs := [.int 0, .int 0, .null]) (C := RX4) (T := TX4) (N := 3) hx hb hts inAll_4 tyX4 tyX4_ok hown (hts (.classLink RX3 20 RX4) k_24) (hts (.instantiable RX4 3) k_25) (hts (.initialized RX4) k_26) hK hP hD hS hA rfl (fun j hj => by rcases (show j = 0 ∨ j = 1 ∨ j = 2 by omega) with rfl | rfl | rfl <;> rfl) (Nat.le_of_ble_eq_true rfl) (Nat.le_of_ble_eq_true rfl) dX3_init_19 (fun q5 H hP hD hS => ?_)
  have hP : va_P (dC, dI) vwCl [(a0, .inr (3, [.ref q1, .null, .null, .null, .int 0])), (q1, .inr (0, [.ref qa3, .int 0])), (qa3, .inl (cA4, 1200, .inl (fun _ => 0))), (q5, .inr (4, [.int 0, .int 0, .null]))] H := hP
  have hD : va_D A [(a0, .inr (3, [.ref q1, .null, .null, .null, .int 0])), (q1, .inr (0, [.ref qa3, .int 0])), (qa3, .inl (cA4, 1200, .inl (fun _ => 0))), (q5, .inr (4, [.int 0, .int 0, .null]))] := hD
  refine W.widen (k := 3) (n := 1205) (Nat.le_of_ble_eq_true rfl) (Nat.le_of_ble_eq_true rfl) ?_
  refine lv_dup hx hb dX3_init_22 rfl ?_
  refine lv_bipush (v := 120) hx hb dX3_init_23 (by decide) ?_
  refine lv_bipush (v := 10) hx hb dX3_init_25 (by decide) ?_
  have hPc := hP.sub (ws' := [(q5, .inr (4, [.int 0, .int 0, .null]))]) [3] rfl
  have hDc := hD.sub (ws' := [(q5, .inr (4, [.int 0, .int 0, .null]))]) [3] (by decide) rfl
  have hKc := hK.sub (tys' := []) [] rfl
  have hFc := va_free (wc := [(q5, .inr (4, [.int 0, .int 0, .null]))]) hD hS hA [3] rfl
  refine va_callv (va_runI (As := [.int 120, .int 10]) (rest := [.ref q5, .ref a0]) ⟨hx, hb, hml, hown, hts⟩ (c_X4_init l dC dI H.size q5 120 10 1200 (by decide) (rfl) (Nat.le_of_ble_eq_true rfl)) (cwI 2 hts gg_i_X4_init rfl rfl rfl (hts (.initialized RX4) k_26) (hts (.methodLink RX3 22 yX4_init) k_28) (hts (.instanceMethod yX4_init) k_29) rfl (by decide +kernel) ⟨Nat.le_of_ble_eq_true rfl, Nat.le_of_ble_eq_true rfl⟩) ⟨fun a U g mk q => by obtain ⟨q0, q1, qP, qK, qD⟩ := q; exact ⟨q0, q1, qP, va_K.moved (u := U) (U := U.calling g mk a) (Vm.Alike.refl U.vm) qK, qD⟩, fun U hU hW => ⟨rfl, by rw [hU], by rw [hU]; exact hPc, va_K.moved hW.alike hKc, hDc.weaken (fun _ _ _ _ => trivial)⟩⟩ rfl rfl hl.1 rfl (lv_room (Nat.le_of_ble_eq_true rfl)) dX3_init_27 ⟨Nat.le_of_ble_eq_true rfl, Nat.le_of_ble_eq_true rfl⟩) hS (fun q _ h => hFc q h) hFc (fun u t H1 locs ht hvm hw hB hz1 hk1 hS => ?_)
  obtain ⟨hP1, hK1, hD1⟩ := hB
  rw [ht] at hP1
  have hK1 := va_K.moved hvm.symm hK1
  obtain ⟨hP, hD⟩ := va_join (wr := [(a0, .inr (3, [.ref q1, .null, .null, .null, .int 0])), (q1, .inr (0, [.ref qa3, .int 0])), (qa3, .inl (cA4, 1200, .inl (fun _ => 0)))]) (w1 := []) hP hD [3] [0, 1, 2] rfl rfl (by decide) (by decide) hk1 hFc hP1 hD1
  have hK := (hK.sub (tys' := [(cA4, .byte)]) [0] rfl).app hK1
  generalize H1 = H at hP hS ⊢
  have hP : va_P (dC, dI) vwCl [(a0, .inr (3, [.ref q1, .null, .null, .null, .int 0])), (q1, .inr (0, [.ref qa3, .int 0])), (qa3, .inl (cA4, 1200, .inl (fun _ => 0)))] H := hP
  have hD : va_D A [(a0, .inr (3, [.ref q1, .null, .null, .null, .int 0])), (q1, .inr (0, [.ref qa3, .int 0])), (qa3, .inl (cA4, 1200, .inl (fun _ => 0)))] := hD
  have hK : va_K (dC, dI) vwCl [(cA4, .byte)] s := hK
  refine W.widen (k := 4) (n := 2405) (Nat.le_of_ble_eq_true rfl) (Nat.le_of_ble_eq_true rfl) ?_
  refine va_putF (D := (dC, dI)) (ci := 3) (v := .ref q5) (ty := .object "LoopEnvelopes$Table") (C := RX3) (T := TX3) (N := 5) hx hb hts inAll_3 tyX3 tyX3_ok nmX3 hown hK hP hD hS 0 rfl rfl 1 (by decide) (hts (.fieldLink RX3 25 "LoopEnvelopes$Segments" "begins" "LLoopEnvelopes$Table;") k_30) (fun _ h9 => h9) rfl hin rfl (by decide +kernel) rfl rfl (Nat.le_of_ble_eq_true rfl) dX3_init_30 (fun H locs hP hD hS => ?_)
  have hP : va_P (dC, dI) vwCl [(a0, .inr (3, [.ref q1, .ref q5, .null, .null, .int 0])), (q1, .inr (0, [.ref qa3, .int 0])), (qa3, .inl (cA4, 1200, .inl (fun _ => 0)))] H := hP
  have hD : va_D A [(a0, .inr (3, [.ref q1, .ref q5, .null, .null, .int 0])), (q1, .inr (0, [.ref qa3, .int 0])), (qa3, .inl (cA4, 1200, .inl (fun _ => 0)))] := hD
  refine lv_aload_n hx hb dX3_init_33 rfl (lv_at hl 0 rfl) ?_
  refine va_new (ci := 4) (fs := [.int 0, .int 0, .null]) (C := RX4) (T := TX4) (N := 3) hx hb hts inAll_4 tyX4 tyX4_ok hown (hts (.classLink RX3 20 RX4) k_24) (hts (.instantiable RX4 3) k_25) (hts (.initialized RX4) k_26) hK hP hD hS hA rfl (fun j hj => by rcases (show j = 0 ∨ j = 1 ∨ j = 2 by omega) with rfl | rfl | rfl <;> rfl) (Nat.le_of_ble_eq_true rfl) (Nat.le_of_ble_eq_true rfl) dX3_init_34 (fun q7 H hP hD hS => ?_)
  have hP : va_P (dC, dI) vwCl [(a0, .inr (3, [.ref q1, .ref q5, .null, .null, .int 0])), (q1, .inr (0, [.ref qa3, .int 0])), (qa3, .inl (cA4, 1200, .inl (fun _ => 0))), (q7, .inr (4, [.int 0, .int 0, .null]))] H := hP
  have hD : va_D A [(a0, .inr (3, [.ref q1, .ref q5, .null, .null, .int 0])), (q1, .inr (0, [.ref qa3, .int 0])), (qa3, .inl (cA4, 1200, .inl (fun _ => 0))), (q7, .inr (4, [.int 0, .int 0, .null]))] := hD
  refine W.widen (k := 5) (n := 2408) (Nat.le_of_ble_eq_true rfl) (Nat.le_of_ble_eq_true rfl) ?_
  refine lv_dup hx hb dX3_init_37 rfl ?_
  refine lv_bipush (v := 120) hx hb dX3_init_38 (by decide) ?_
  refine lv_iconst (v := 1) hx hb dX3_init_40 (by decide) ?_
  have hPc := hP.sub (ws' := [(q7, .inr (4, [.int 0, .int 0, .null]))]) [3] rfl
  have hDc := hD.sub (ws' := [(q7, .inr (4, [.int 0, .int 0, .null]))]) [3] (by decide) rfl
  have hKc := hK.sub (tys' := []) [] rfl
  have hFc := va_free (wc := [(q7, .inr (4, [.int 0, .int 0, .null]))]) hD hS hA [3] rfl
  refine va_callv (va_runI (As := [.int 120, .int 1]) (rest := [.ref q7, .ref a0]) ⟨hx, hb, hml, hown, hts⟩ (c_X4_init l dC dI H.size q7 120 1 120 (by decide) (rfl) (Nat.le_of_ble_eq_true rfl)) (cwI 2 hts gg_i_X4_init rfl rfl rfl (hts (.initialized RX4) k_26) (hts (.methodLink RX3 22 yX4_init) k_28) (hts (.instanceMethod yX4_init) k_29) rfl (by decide +kernel) ⟨Nat.le_of_ble_eq_true rfl, Nat.le_of_ble_eq_true rfl⟩) ⟨fun a U g mk q => by obtain ⟨q0, q1, qP, qK, qD⟩ := q; exact ⟨q0, q1, qP, va_K.moved (u := U) (U := U.calling g mk a) (Vm.Alike.refl U.vm) qK, qD⟩, fun U hU hW => ⟨rfl, by rw [hU], by rw [hU]; exact hPc, va_K.moved hW.alike hKc, hDc.weaken (fun _ _ _ _ => trivial)⟩⟩ rfl rfl hl.1 rfl (lv_room (Nat.le_of_ble_eq_true rfl)) dX3_init_41 ⟨Nat.le_of_ble_eq_true rfl, Nat.le_of_ble_eq_true rfl⟩) hS (fun q _ h => hFc q h) hFc (fun u t H1 locs ht hvm hw hB hz1 hk1 hS => ?_)
  obtain ⟨hP1, hK1, hD1⟩ := hB
  rw [ht] at hP1
  have hK1 := va_K.moved hvm.symm hK1
  obtain ⟨hP, hD⟩ := va_join (wr := [(a0, .inr (3, [.ref q1, .ref q5, .null, .null, .int 0])), (q1, .inr (0, [.ref qa3, .int 0])), (qa3, .inl (cA4, 1200, .inl (fun _ => 0)))]) (w1 := []) hP hD [3] [0, 1, 2] rfl rfl (by decide) (by decide) hk1 hFc hP1 hD1
  have hK := (hK.sub (tys' := [(cA4, .byte)]) [0] rfl).app hK1
  generalize H1 = H at hP hS ⊢
  have hP : va_P (dC, dI) vwCl [(a0, .inr (3, [.ref q1, .ref q5, .null, .null, .int 0])), (q1, .inr (0, [.ref qa3, .int 0])), (qa3, .inl (cA4, 1200, .inl (fun _ => 0)))] H := hP
  have hD : va_D A [(a0, .inr (3, [.ref q1, .ref q5, .null, .null, .int 0])), (q1, .inr (0, [.ref qa3, .int 0])), (qa3, .inl (cA4, 1200, .inl (fun _ => 0)))] := hD
  have hK : va_K (dC, dI) vwCl [(cA4, .byte)] s := hK
  refine W.widen (k := 6) (n := 2528) (Nat.le_of_ble_eq_true rfl) (Nat.le_of_ble_eq_true rfl) ?_
  refine va_putF (D := (dC, dI)) (ci := 3) (v := .ref q7) (ty := .object "LoopEnvelopes$Table") (C := RX3) (T := TX3) (N := 5) hx hb hts inAll_3 tyX3 tyX3_ok nmX3 hown hK hP hD hS 0 rfl rfl 2 (by decide) (hts (.fieldLink RX3 29 "LoopEnvelopes$Segments" "names" "LLoopEnvelopes$Table;") k_31) (fun _ h9 => h9) rfl hin rfl (by decide +kernel) rfl rfl (Nat.le_of_ble_eq_true rfl) dX3_init_44 (fun H locs hP hD hS => ?_)
  have hP : va_P (dC, dI) vwCl [(a0, .inr (3, [.ref q1, .ref q5, .ref q7, .null, .int 0])), (q1, .inr (0, [.ref qa3, .int 0])), (qa3, .inl (cA4, 1200, .inl (fun _ => 0)))] H := hP
  have hD : va_D A [(a0, .inr (3, [.ref q1, .ref q5, .ref q7, .null, .int 0])), (q1, .inr (0, [.ref qa3, .int 0])), (qa3, .inl (cA4, 1200, .inl (fun _ => 0)))] := hD
  refine lv_aload_n hx hb dX3_init_47 rfl (lv_at hl 0 rfl) ?_
  refine va_new (ci := 4) (fs := [.int 0, .int 0, .null]) (C := RX4) (T := TX4) (N := 3) hx hb hts inAll_4 tyX4 tyX4_ok hown (hts (.classLink RX3 20 RX4) k_24) (hts (.instantiable RX4 3) k_25) (hts (.initialized RX4) k_26) hK hP hD hS hA rfl (fun j hj => by rcases (show j = 0 ∨ j = 1 ∨ j = 2 by omega) with rfl | rfl | rfl <;> rfl) (Nat.le_of_ble_eq_true rfl) (Nat.le_of_ble_eq_true rfl) dX3_init_48 (fun q9 H hP hD hS => ?_)
  have hP : va_P (dC, dI) vwCl [(a0, .inr (3, [.ref q1, .ref q5, .ref q7, .null, .int 0])), (q1, .inr (0, [.ref qa3, .int 0])), (qa3, .inl (cA4, 1200, .inl (fun _ => 0))), (q9, .inr (4, [.int 0, .int 0, .null]))] H := hP
  have hD : va_D A [(a0, .inr (3, [.ref q1, .ref q5, .ref q7, .null, .int 0])), (q1, .inr (0, [.ref qa3, .int 0])), (qa3, .inl (cA4, 1200, .inl (fun _ => 0))), (q9, .inr (4, [.int 0, .int 0, .null]))] := hD
  refine W.widen (k := 7) (n := 2531) (Nat.le_of_ble_eq_true rfl) (Nat.le_of_ble_eq_true rfl) ?_
  refine lv_dup hx hb dX3_init_51 rfl ?_
  refine lv_bipush (v := 120) hx hb dX3_init_52 (by decide) ?_
  refine lv_iconst (v := 1) hx hb dX3_init_54 (by decide) ?_
  have hPc := hP.sub (ws' := [(q9, .inr (4, [.int 0, .int 0, .null]))]) [3] rfl
  have hDc := hD.sub (ws' := [(q9, .inr (4, [.int 0, .int 0, .null]))]) [3] (by decide) rfl
  have hKc := hK.sub (tys' := []) [] rfl
  have hFc := va_free (wc := [(q9, .inr (4, [.int 0, .int 0, .null]))]) hD hS hA [3] rfl
  refine va_callv (va_runI (As := [.int 120, .int 1]) (rest := [.ref q9, .ref a0]) ⟨hx, hb, hml, hown, hts⟩ (c_X4_init l dC dI H.size q9 120 1 120 (by decide) (rfl) (Nat.le_of_ble_eq_true rfl)) (cwI 2 hts gg_i_X4_init rfl rfl rfl (hts (.initialized RX4) k_26) (hts (.methodLink RX3 22 yX4_init) k_28) (hts (.instanceMethod yX4_init) k_29) rfl (by decide +kernel) ⟨Nat.le_of_ble_eq_true rfl, Nat.le_of_ble_eq_true rfl⟩) ⟨fun a U g mk q => by obtain ⟨q0, q1, qP, qK, qD⟩ := q; exact ⟨q0, q1, qP, va_K.moved (u := U) (U := U.calling g mk a) (Vm.Alike.refl U.vm) qK, qD⟩, fun U hU hW => ⟨rfl, by rw [hU], by rw [hU]; exact hPc, va_K.moved hW.alike hKc, hDc.weaken (fun _ _ _ _ => trivial)⟩⟩ rfl rfl hl.1 rfl (lv_room (Nat.le_of_ble_eq_true rfl)) dX3_init_55 ⟨Nat.le_of_ble_eq_true rfl, Nat.le_of_ble_eq_true rfl⟩) hS (fun q _ h => hFc q h) hFc (fun u t H1 locs ht hvm hw hB hz1 hk1 hS => ?_)
  obtain ⟨hP1, hK1, hD1⟩ := hB
  rw [ht] at hP1
  have hK1 := va_K.moved hvm.symm hK1
  obtain ⟨hP, hD⟩ := va_join (wr := [(a0, .inr (3, [.ref q1, .ref q5, .ref q7, .null, .int 0])), (q1, .inr (0, [.ref qa3, .int 0])), (qa3, .inl (cA4, 1200, .inl (fun _ => 0)))]) (w1 := []) hP hD [3] [0, 1, 2] rfl rfl (by decide) (by decide) hk1 hFc hP1 hD1
  have hK := (hK.sub (tys' := [(cA4, .byte)]) [0] rfl).app hK1
  generalize H1 = H at hP hS ⊢
  have hP : va_P (dC, dI) vwCl [(a0, .inr (3, [.ref q1, .ref q5, .ref q7, .null, .int 0])), (q1, .inr (0, [.ref qa3, .int 0])), (qa3, .inl (cA4, 1200, .inl (fun _ => 0)))] H := hP
  have hD : va_D A [(a0, .inr (3, [.ref q1, .ref q5, .ref q7, .null, .int 0])), (q1, .inr (0, [.ref qa3, .int 0])), (qa3, .inl (cA4, 1200, .inl (fun _ => 0)))] := hD
  have hK : va_K (dC, dI) vwCl [(cA4, .byte)] s := hK
  refine W.widen (k := 8) (n := 2651) (Nat.le_of_ble_eq_true rfl) (Nat.le_of_ble_eq_true rfl) ?_
  refine va_putF (D := (dC, dI)) (ci := 3) (v := .ref q9) (ty := .object "LoopEnvelopes$Table") (C := RX3) (T := TX3) (N := 5) hx hb hts inAll_3 tyX3 tyX3_ok nmX3 hown hK hP hD hS 0 rfl rfl 3 (by decide) (hts (.fieldLink RX3 32 "LoopEnvelopes$Segments" "elements" "LLoopEnvelopes$Table;") k_32) (fun _ h9 => h9) rfl hin rfl (by decide +kernel) rfl rfl (Nat.le_of_ble_eq_true rfl) dX3_init_58 (fun H locs hP hD hS => ?_)
  have hP : va_P (dC, dI) vwCl [(a0, .inr (3, [.ref q1, .ref q5, .ref q7, .ref q9, .int 0])), (q1, .inr (0, [.ref qa3, .int 0])), (qa3, .inl (cA4, 1200, .inl (fun _ => 0)))] H := hP
  have hD : va_D A [(a0, .inr (3, [.ref q1, .ref q5, .ref q7, .ref q9, .int 0])), (q1, .inr (0, [.ref qa3, .int 0])), (qa3, .inl (cA4, 1200, .inl (fun _ => 0)))] := hD
  refine lv_aload_n hx hb dX3_init_61 rfl (lv_at hl 0 rfl) ?_
  refine lv_iconst (v := 0) hx hb dX3_init_62 (by decide) ?_
  refine va_put (D := (dC, dI)) (ci := 3) (v := .int 0) (ty := .int) (C := RX3) (T := TX3) (N := 5) hx hb hts inAll_3 tyX3 tyX3_ok nmX3 hown hK hP hD hS 0 rfl rfl 4 (by decide) (hts (.fieldLink RX3 35 "LoopEnvelopes$Segments" "held" "I") k_33) (fun _ h9 => h9) rfl (by decide +kernel) rfl rfl (Nat.le_of_ble_eq_true rfl) dX3_init_63 (fun H locs hP hD hS => ?_)
  have hP : va_P (dC, dI) vwCl [(a0, .inr (3, [.ref q1, .ref q5, .ref q7, .ref q9, .int 0])), (q1, .inr (0, [.ref qa3, .int 0])), (qa3, .inl (cA4, 1200, .inl (fun _ => 0)))] H := hP
  have hD : va_D A [(a0, .inr (3, [.ref q1, .ref q5, .ref q7, .ref q9, .int 0])), (q1, .inr (0, [.ref qa3, .int 0])), (qa3, .inl (cA4, 1200, .inl (fun _ => 0)))] := hD
  have hP9 := hP.sub (ws' := [(a0, .inr (3, [.ref q1, .ref q5, .ref q7, .ref q9, .int 0])), (q1, .inr (0, [.ref qa3, .int 0]))]) [0, 1] rfl
  have hD9 := hD.sub (ws' := [(a0, .inr (3, [.ref q1, .ref q5, .ref q7, .ref q9, .int 0])), (q1, .inr (0, [.ref qa3, .int 0]))]) [0, 1] (by decide) rfl
  have hK9 := hK.sub (tys' := []) [] rfl
  refine W.widen (k := 8) (n := 2651) (Nat.le_of_ble_eq_true rfl) (Nat.le_of_ble_eq_true rfl) ?_
  exact W.vret hx hb hr (fun t ht hW => ⟨⟨(), rfl, trivial, q1, qa3, q5, q7, q9, by rw [ht]; exact hP9, va_K.moved hW.alike hK9, hD9⟩, hS.F ht⟩) hS.2.2 dX3_init_66

set_option maxHeartbeats 4000000 in
set_option maxRecDepth 100000 in
/-- Frames(segments) -/
theorem c_X1_init (l : Launch) (dC : Nat → ClassId) (dI : Nat → Nat → Nat) (sz : Nat) (a0 : Nat) (gs : Nat) : Met l yX1_init pwX1_init ({ frames := 2, cells := 4, slots := 474, locals := 42 } : Room) (va_Pc [.ref a0, .ref gs] (fun U => U.heap.size = sz ∧ va_P (dC, dI) vwCl [(a0, .inr (1, [.null, .null, .null, .int 0, .int 0, .int 0]))] U.heap ∧ va_K (dC, dI) vwCl [] U ∧ va_D (fun _ => True) [(a0, .inr (1, [.null, .null, .null, .int 0, .int 0, .int 0]))])) (va_Qv (fun _ : Unit => True) (fun (_ : Unit) (t : State) => ∃ (qc : Nat) (qd : Nat), va_P (dC, dI) vwCl [(a0, .inr (1, [.ref gs, .ref qc, .ref qd, .int 0, .int 0, .int 0]))] t.heap ∧ va_K (dC, dI) vwCl [] t ∧ va_D (va_A [(a0, .inr (1, [.null, .null, .null, .int 0, .int 0, .int 0]))] sz) [(a0, .inr (1, [.ref gs, .ref qc, .ref qd, .int 0, .int 0, .int 0]))]) (va_A [(a0, .inr (1, [.null, .null, .null, .int 0, .int 0, .int 0]))] sz)) 4 474 (va_A [(a0, .inr (1, [.null, .null, .null, .int 0, .int 0, .int 0]))] sz) := by
  refine Met.ofW (cc := cX1_init) (maxL := 2) (ret := none) (by decide) rfl ?_
  intro p e s m args below meth c s₁ B hml hv
  obtain ⟨rfl, hsz, hP, hK, hD0⟩ := hv
  have hx := B.exec
  have hb := B.bytes
  have hr := B.returns
  have hts0 := atoms_spec (ws := pwX1_init) B.pre
  have hts := fun w (h : w ∈ pwAll) => hts0 w (List.mem_cons_of_mem _ h)
  have hown : s.vm.findClass RX1 = some m.cls := findClass_of_methodNamed B.named
  have hlocks := B.notSynchronized
  have hin : meth.name = "<init>" := (name_of_methodNamed B.named B.method).1
  subst hsz
  have hD := hD0.self (sz := s.heap.size)
  generalize hAe : va_A [(a0, .inr (1, [.null, .null, .null, .int 0, .int 0, .int 0]))] s.heap.size = A at hD ⊢
  have hA : ∀ q : Nat, s.heap.size ≤ q → A q := fun q h => by rw [← hAe]; exact Or.inr h
  have hS : va_S A s.heap s.heap [] := va_S.rf
  have hP : va_P (dC, dI) vwCl [(a0, .inr (1, [.null, .null, .null, .int 0, .int 0, .int 0]))] s.heap := hP
  have hl := lv_entry ([.ref a0, .ref gs]) (n := 2) (Nat.le_of_ble_eq_true rfl)
  rw [lg_entry_eq]
  generalize (lg_sl ([.ref a0, .ref gs]) ++ List.replicate (2 - (lg_sl ([.ref a0, .ref gs])).length) Slot.unset).toArray = ls at hl ⊢
  have hl : lv_has ls 2 [(0, .ref a0), (1, .ref gs)] := hl
  refine lv_aload_n hx hb dX1_init_0 rfl (lv_at hl 0 rfl) ?_
  refine W.objInit hx hb hown (hts (.methodLink RX1 3 objectInit) k_34) (hts (.instanceMethod objectInit) k_1) (hts (.code objectInit ⟨#[0xb1]⟩ 1 none) k_2) rfl (by rw [hml]; exact hl.1) rfl dX1_init_1 (Nat.le_of_ble_eq_true rfl) (Nat.le_of_ble_eq_true rfl) ?_
  refine W.eq (g2 := F0 m 4 ls []) rfl ?_
  refine lv_aload_n hx hb dX1_init_4 rfl (lv_at hl 0 rfl) ?_
  refine lv_aload_n hx hb dX1_init_5 rfl (lv_at hl 1 rfl) ?_
  refine va_putF (D := (dC, dI)) (ci := 1) (v := .ref gs) (ty := .object "LoopEnvelopes$Segments") (C := RX1) (T := TX1) (N := 6) hx hb hts inAll_1 tyX1 tyX1_ok nmX1 hown hK hP hD hS 0 rfl rfl 0 (by decide) (hts (.fieldLink RX1 9 "LoopEnvelopes$Frames" "segments" "LLoopEnvelopes$Segments;") k_35) (fun _ h9 => h9) rfl hin rfl (by decide +kernel) rfl rfl (Nat.le_of_ble_eq_true rfl) dX1_init_6 (fun H locs hP hD hS => ?_)
  have hP : va_P (dC, dI) vwCl [(a0, .inr (1, [.ref gs, .null, .null, .int 0, .int 0, .int 0]))] H := hP
  have hD : va_D A [(a0, .inr (1, [.ref gs, .null, .null, .int 0, .int 0, .int 0]))] := hD
  refine lv_aload_n hx hb dX1_init_9 rfl (lv_at hl 0 rfl) ?_
  refine va_new (ci := 4) (fs := [.int 0, .int 0, .null]) (C := RX4) (T := TX4) (N := 3) hx hb hts inAll_4 tyX4 tyX4_ok hown (hts (.classLink RX1 15 RX4) k_36) (hts (.instantiable RX4 3) k_25) (hts (.initialized RX4) k_26) hK hP hD hS hA rfl (fun j hj => by rcases (show j = 0 ∨ j = 1 ∨ j = 2 by omega) with rfl | rfl | rfl <;> rfl) (Nat.le_of_ble_eq_true rfl) (Nat.le_of_ble_eq_true rfl) dX1_init_10 (fun q1 H hP hD hS => ?_)
  have hP : va_P (dC, dI) vwCl [(a0, .inr (1, [.ref gs, .null, .null, .int 0, .int 0, .int 0])), (q1, .inr (4, [.int 0, .int 0, .null]))] H := hP
  have hD : va_D A [(a0, .inr (1, [.ref gs, .null, .null, .int 0, .int 0, .int 0])), (q1, .inr (4, [.int 0, .int 0, .null]))] := hD
  refine W.widen (k := 1) (n := 3) (Nat.le_of_ble_eq_true rfl) (Nat.le_of_ble_eq_true rfl) ?_
  refine lv_dup hx hb dX1_init_13 rfl ?_
  refine lv_bipush (v := 60) hx hb dX1_init_14 (by decide) ?_
  refine lv_iconst (v := 5) hx hb dX1_init_16 (by decide) ?_
  have hPc := hP.sub (ws' := [(q1, .inr (4, [.int 0, .int 0, .null]))]) [1] rfl
  have hDc := hD.sub (ws' := [(q1, .inr (4, [.int 0, .int 0, .null]))]) [1] (by decide) rfl
  have hKc := hK.sub (tys' := []) [] rfl
  have hFc := va_free (wc := [(q1, .inr (4, [.int 0, .int 0, .null]))]) hD hS hA [1] rfl
  refine va_callv (va_runI (As := [.int 60, .int 5]) (rest := [.ref q1, .ref a0]) ⟨hx, hb, hml, hown, hts⟩ (c_X4_init l dC dI H.size q1 60 5 300 (by decide) (rfl) (Nat.le_of_ble_eq_true rfl)) (cwI 2 hts gg_i_X4_init rfl rfl rfl (hts (.initialized RX4) k_26) (hts (.methodLink RX1 17 yX4_init) k_37) (hts (.instanceMethod yX4_init) k_29) rfl (by decide +kernel) ⟨Nat.le_of_ble_eq_true rfl, Nat.le_of_ble_eq_true rfl⟩) ⟨fun a U g mk q => by obtain ⟨q0, q1, qP, qK, qD⟩ := q; exact ⟨q0, q1, qP, va_K.moved (u := U) (U := U.calling g mk a) (Vm.Alike.refl U.vm) qK, qD⟩, fun U hU hW => ⟨rfl, by rw [hU], by rw [hU]; exact hPc, va_K.moved hW.alike hKc, hDc.weaken (fun _ _ _ _ => trivial)⟩⟩ rfl rfl hl.1 rfl (lv_room (Nat.le_of_ble_eq_true rfl)) dX1_init_17 ⟨Nat.le_of_ble_eq_true rfl, Nat.le_of_ble_eq_true rfl⟩) hS (fun q _ h => hFc q h) hFc (fun u t H1 locs ht hvm hw hB hz1 hk1 hS => ?_)
  obtain ⟨hP1, hK1, hD1⟩ := hB
  rw [ht] at hP1
  have hK1 := va_K.moved hvm.symm hK1
  obtain ⟨hP, hD⟩ := va_join (wr := [(a0, .inr (1, [.ref gs, .null, .null, .int 0, .int 0, .int 0]))]) (w1 := []) hP hD [1] [0] rfl rfl (by decide) (by decide) hk1 hFc hP1 hD1
  have hK := (hK.sub (tys' := []) [] rfl).app hK1
  generalize H1 = H at hP hS ⊢
  have hP : va_P (dC, dI) vwCl [(a0, .inr (1, [.ref gs, .null, .null, .int 0, .int 0, .int 0]))] H := hP
  have hD : va_D A [(a0, .inr (1, [.ref gs, .null, .null, .int 0, .int 0, .int 0]))] := hD
  have hK : va_K (dC, dI) vwCl [] s := hK
  refine W.widen (k := 2) (n := 303) (Nat.le_of_ble_eq_true rfl) (Nat.le_of_ble_eq_true rfl) ?_
  refine va_putF (D := (dC, dI)) (ci := 1) (v := .ref q1) (ty := .object "LoopEnvelopes$Table") (C := RX1) (T := TX1) (N := 6) hx hb hts inAll_1 tyX1 tyX1_ok nmX1 hown hK hP hD hS 0 rfl rfl 1 (by decide) (hts (.fieldLink RX1 20 "LoopEnvelopes$Frames" "groups" "LLoopEnvelopes$Table;") k_38) (fun _ h9 => h9) rfl hin rfl (by decide +kernel) rfl rfl (Nat.le_of_ble_eq_true rfl) dX1_init_20 (fun H locs hP hD hS => ?_)
  have hP : va_P (dC, dI) vwCl [(a0, .inr (1, [.ref gs, .ref q1, .null, .int 0, .int 0, .int 0]))] H := hP
  have hD : va_D A [(a0, .inr (1, [.ref gs, .ref q1, .null, .int 0, .int 0, .int 0]))] := hD
  refine lv_aload_n hx hb dX1_init_23 rfl (lv_at hl 0 rfl) ?_
  refine va_new (ci := 4) (fs := [.int 0, .int 0, .null]) (C := RX4) (T := TX4) (N := 3) hx hb hts inAll_4 tyX4 tyX4_ok hown (hts (.classLink RX1 15 RX4) k_36) (hts (.instantiable RX4 3) k_25) (hts (.initialized RX4) k_26) hK hP hD hS hA rfl (fun j hj => by rcases (show j = 0 ∨ j = 1 ∨ j = 2 by omega) with rfl | rfl | rfl <;> rfl) (Nat.le_of_ble_eq_true rfl) (Nat.le_of_ble_eq_true rfl) dX1_init_24 (fun q3 H hP hD hS => ?_)
  have hP : va_P (dC, dI) vwCl [(a0, .inr (1, [.ref gs, .ref q1, .null, .int 0, .int 0, .int 0])), (q3, .inr (4, [.int 0, .int 0, .null]))] H := hP
  have hD : va_D A [(a0, .inr (1, [.ref gs, .ref q1, .null, .int 0, .int 0, .int 0])), (q3, .inr (4, [.int 0, .int 0, .null]))] := hD
  refine W.widen (k := 3) (n := 306) (Nat.le_of_ble_eq_true rfl) (Nat.le_of_ble_eq_true rfl) ?_
  refine lv_dup hx hb dX1_init_27 rfl ?_
  refine lv_bipush (v := 24) hx hb dX1_init_28 (by decide) ?_
  refine lv_bipush (v := 7) hx hb dX1_init_30 (by decide) ?_
  have hPc := hP.sub (ws' := [(q3, .inr (4, [.int 0, .int 0, .null]))]) [1] rfl
  have hDc := hD.sub (ws' := [(q3, .inr (4, [.int 0, .int 0, .null]))]) [1] (by decide) rfl
  have hKc := hK.sub (tys' := []) [] rfl
  have hFc := va_free (wc := [(q3, .inr (4, [.int 0, .int 0, .null]))]) hD hS hA [1] rfl
  refine va_callv (va_runI (As := [.int 24, .int 7]) (rest := [.ref q3, .ref a0]) ⟨hx, hb, hml, hown, hts⟩ (c_X4_init l dC dI H.size q3 24 7 168 (by decide) (rfl) (Nat.le_of_ble_eq_true rfl)) (cwI 2 hts gg_i_X4_init rfl rfl rfl (hts (.initialized RX4) k_26) (hts (.methodLink RX1 17 yX4_init) k_37) (hts (.instanceMethod yX4_init) k_29) rfl (by decide +kernel) ⟨Nat.le_of_ble_eq_true rfl, Nat.le_of_ble_eq_true rfl⟩) ⟨fun a U g mk q => by obtain ⟨q0, q1, qP, qK, qD⟩ := q; exact ⟨q0, q1, qP, va_K.moved (u := U) (U := U.calling g mk a) (Vm.Alike.refl U.vm) qK, qD⟩, fun U hU hW => ⟨rfl, by rw [hU], by rw [hU]; exact hPc, va_K.moved hW.alike hKc, hDc.weaken (fun _ _ _ _ => trivial)⟩⟩ rfl rfl hl.1 rfl (lv_room (Nat.le_of_ble_eq_true rfl)) dX1_init_32 ⟨Nat.le_of_ble_eq_true rfl, Nat.le_of_ble_eq_true rfl⟩) hS (fun q _ h => hFc q h) hFc (fun u t H1 locs ht hvm hw hB hz1 hk1 hS => ?_)
  obtain ⟨hP1, hK1, hD1⟩ := hB
  rw [ht] at hP1
  have hK1 := va_K.moved hvm.symm hK1
  obtain ⟨hP, hD⟩ := va_join (wr := [(a0, .inr (1, [.ref gs, .ref q1, .null, .int 0, .int 0, .int 0]))]) (w1 := []) hP hD [1] [0] rfl rfl (by decide) (by decide) hk1 hFc hP1 hD1
  have hK := (hK.sub (tys' := []) [] rfl).app hK1
  generalize H1 = H at hP hS ⊢
  have hP : va_P (dC, dI) vwCl [(a0, .inr (1, [.ref gs, .ref q1, .null, .int 0, .int 0, .int 0]))] H := hP
  have hD : va_D A [(a0, .inr (1, [.ref gs, .ref q1, .null, .int 0, .int 0, .int 0]))] := hD
  have hK : va_K (dC, dI) vwCl [] s := hK
  refine W.widen (k := 4) (n := 474) (Nat.le_of_ble_eq_true rfl) (Nat.le_of_ble_eq_true rfl) ?_
  refine va_putF (D := (dC, dI)) (ci := 1) (v := .ref q3) (ty := .object "LoopEnvelopes$Table") (C := RX1) (T := TX1) (N := 6) hx hb hts inAll_1 tyX1 tyX1_ok nmX1 hown hK hP hD hS 0 rfl rfl 2 (by decide) (hts (.fieldLink RX1 24 "LoopEnvelopes$Frames" "sets" "LLoopEnvelopes$Table;") k_39) (fun _ h9 => h9) rfl hin rfl (by decide +kernel) rfl rfl (Nat.le_of_ble_eq_true rfl) dX1_init_35 (fun H locs hP hD hS => ?_)
  have hP : va_P (dC, dI) vwCl [(a0, .inr (1, [.ref gs, .ref q1, .ref q3, .int 0, .int 0, .int 0]))] H := hP
  have hD : va_D A [(a0, .inr (1, [.ref gs, .ref q1, .ref q3, .int 0, .int 0, .int 0]))] := hD
  refine lv_aload_n hx hb dX1_init_38 rfl (lv_at hl 0 rfl) ?_
  refine lv_iconst (v := 0) hx hb dX1_init_39 (by decide) ?_
  refine va_put (D := (dC, dI)) (ci := 1) (v := .int 0) (ty := .int) (C := RX1) (T := TX1) (N := 6) hx hb hts inAll_1 tyX1 tyX1_ok nmX1 hown hK hP hD hS 0 rfl rfl 3 (by decide) (hts (.fieldLink RX1 27 "LoopEnvelopes$Frames" "groupsHeld" "I") k_40) (fun _ h9 => h9) rfl (by decide +kernel) rfl rfl (Nat.le_of_ble_eq_true rfl) dX1_init_40 (fun H locs hP hD hS => ?_)
  have hP : va_P (dC, dI) vwCl [(a0, .inr (1, [.ref gs, .ref q1, .ref q3, .int 0, .int 0, .int 0]))] H := hP
  have hD : va_D A [(a0, .inr (1, [.ref gs, .ref q1, .ref q3, .int 0, .int 0, .int 0]))] := hD
  refine lv_aload_n hx hb dX1_init_43 rfl (lv_at hl 0 rfl) ?_
  refine lv_iconst (v := 0) hx hb dX1_init_44 (by decide) ?_
  refine va_put (D := (dC, dI)) (ci := 1) (v := .int 0) (ty := .int) (C := RX1) (T := TX1) (N := 6) hx hb hts inAll_1 tyX1 tyX1_ok nmX1 hown hK hP hD hS 0 rfl rfl 4 (by decide) (hts (.fieldLink RX1 31 "LoopEnvelopes$Frames" "setsHeld" "I") k_41) (fun _ h9 => h9) rfl (by decide +kernel) rfl rfl (Nat.le_of_ble_eq_true rfl) dX1_init_45 (fun H locs hP hD hS => ?_)
  have hP : va_P (dC, dI) vwCl [(a0, .inr (1, [.ref gs, .ref q1, .ref q3, .int 0, .int 0, .int 0]))] H := hP
  have hD : va_D A [(a0, .inr (1, [.ref gs, .ref q1, .ref q3, .int 0, .int 0, .int 0]))] := hD
  refine lv_aload_n hx hb dX1_init_48 rfl (lv_at hl 0 rfl) ?_
  refine lv_iconst (v := 0) hx hb dX1_init_49 (by decide) ?_
  refine va_put (D := (dC, dI)) (ci := 1) (v := .int 0) (ty := .int) (C := RX1) (T := TX1) (N := 6) hx hb hts inAll_1 tyX1 tyX1_ok nmX1 hown hK hP hD hS 0 rfl rfl 5 (by decide) (hts (.fieldLink RX1 34 "LoopEnvelopes$Frames" "stage" "I") k_42) (fun _ h9 => h9) rfl (by decide +kernel) rfl rfl (Nat.le_of_ble_eq_true rfl) dX1_init_50 (fun H locs hP hD hS => ?_)
  have hP : va_P (dC, dI) vwCl [(a0, .inr (1, [.ref gs, .ref q1, .ref q3, .int 0, .int 0, .int 0]))] H := hP
  have hD : va_D A [(a0, .inr (1, [.ref gs, .ref q1, .ref q3, .int 0, .int 0, .int 0]))] := hD
  have hP9 := hP.sub (ws' := [(a0, .inr (1, [.ref gs, .ref q1, .ref q3, .int 0, .int 0, .int 0]))]) [0] rfl
  have hD9 := hD.sub (ws' := [(a0, .inr (1, [.ref gs, .ref q1, .ref q3, .int 0, .int 0, .int 0]))]) [0] (by decide) rfl
  have hK9 := hK.sub (tys' := []) [] rfl
  refine W.widen (k := 4) (n := 474) (Nat.le_of_ble_eq_true rfl) (Nat.le_of_ble_eq_true rfl) ?_
  exact W.vret hx hb hr (fun t ht hW => ⟨⟨(), rfl, trivial, q1, q3, by rw [ht]; exact hP9, va_K.moved hW.alike hK9, hD9⟩, hS.F ht⟩) hS.2.2 dX1_init_53

set_option maxHeartbeats 4000000 in
set_option maxRecDepth 100000 in
/-- Judge(segments, frames) -/
theorem c_X2_init (l : Launch) (dC : Nat → ClassId) (dI : Nat → Nat → Nat) (sz : Nat) (a0 : Nat) (gs : Nat) (gf : Nat) : Met l yX2_init pwX2_init ({ frames := 2, cells := 2, slots := 483, locals := 42 } : Room) (va_Pc [.ref a0, .ref gs, .ref gf] (fun U => U.heap.size = sz ∧ va_P (dC, dI) vwCl [(a0, .inr (2, [.null, .null, .null, .int 0, .int 0]))] U.heap ∧ va_K (dC, dI) vwCl [] U ∧ va_D (fun _ => True) [(a0, .inr (2, [.null, .null, .null, .int 0, .int 0]))])) (va_Qv (fun _ : Unit => True) (fun (_ : Unit) (t : State) => va_P (dC, dI) vwCl [] t.heap ∧ va_K (dC, dI) vwCl [] t ∧ va_D (va_A [(a0, .inr (2, [.null, .null, .null, .int 0, .int 0]))] sz) []) (va_A [(a0, .inr (2, [.null, .null, .null, .int 0, .int 0]))] sz)) 2 483 (va_A [(a0, .inr (2, [.null, .null, .null, .int 0, .int 0]))] sz) := by
  refine Met.ofW (cc := cX2_init) (maxL := 3) (ret := none) (by decide) rfl ?_
  intro p e s m args below meth c s₁ B hml hv
  obtain ⟨rfl, hsz, hP, hK, hD0⟩ := hv
  have hx := B.exec
  have hb := B.bytes
  have hr := B.returns
  have hts0 := atoms_spec (ws := pwX2_init) B.pre
  have hts := fun w (h : w ∈ pwAll) => hts0 w (List.mem_cons_of_mem _ h)
  have hown : s.vm.findClass RX2 = some m.cls := findClass_of_methodNamed B.named
  have hlocks := B.notSynchronized
  have hin : meth.name = "<init>" := (name_of_methodNamed B.named B.method).1
  subst hsz
  have hD := hD0.self (sz := s.heap.size)
  generalize hAe : va_A [(a0, .inr (2, [.null, .null, .null, .int 0, .int 0]))] s.heap.size = A at hD ⊢
  have hA : ∀ q : Nat, s.heap.size ≤ q → A q := fun q h => by rw [← hAe]; exact Or.inr h
  have hS : va_S A s.heap s.heap [] := va_S.rf
  have hP : va_P (dC, dI) vwCl [(a0, .inr (2, [.null, .null, .null, .int 0, .int 0]))] s.heap := hP
  have hl := lv_entry ([.ref a0, .ref gs, .ref gf]) (n := 3) (Nat.le_of_ble_eq_true rfl)
  rw [lg_entry_eq]
  generalize (lg_sl ([.ref a0, .ref gs, .ref gf]) ++ List.replicate (3 - (lg_sl ([.ref a0, .ref gs, .ref gf])).length) Slot.unset).toArray = ls at hl ⊢
  have hl : lv_has ls 3 [(0, .ref a0), (1, .ref gs), (2, .ref gf)] := hl
  refine lv_aload_n hx hb dX2_init_0 rfl (lv_at hl 0 rfl) ?_
  refine W.objInit hx hb hown (hts (.methodLink RX2 3 objectInit) k_43) (hts (.instanceMethod objectInit) k_1) (hts (.code objectInit ⟨#[0xb1]⟩ 1 none) k_2) rfl (by rw [hml]; exact hl.1) rfl dX2_init_1 (Nat.le_of_ble_eq_true rfl) (Nat.le_of_ble_eq_true rfl) ?_
  refine W.eq (g2 := F0 m 4 ls []) rfl ?_
  refine lv_aload_n hx hb dX2_init_4 rfl (lv_at hl 0 rfl) ?_
  refine lv_aload_n hx hb dX2_init_5 rfl (lv_at hl 1 rfl) ?_
  refine va_putF (D := (dC, dI)) (ci := 2) (v := .ref gs) (ty := .object "LoopEnvelopes$Segments") (C := RX2) (T := TX2) (N := 5) hx hb hts inAll_2 tyX2 tyX2_ok nmX2 hown hK hP hD hS 0 rfl rfl 0 (by decide) (hts (.fieldLink RX2 9 "LoopEnvelopes$Judge" "segments" "LLoopEnvelopes$Segments;") k_44) (fun _ h9 => h9) rfl hin rfl (by decide +kernel) rfl rfl (Nat.le_of_ble_eq_true rfl) dX2_init_6 (fun H locs hP hD hS => ?_)
  have hP : va_P (dC, dI) vwCl [(a0, .inr (2, [.ref gs, .null, .null, .int 0, .int 0]))] H := hP
  have hD : va_D A [(a0, .inr (2, [.ref gs, .null, .null, .int 0, .int 0]))] := hD
  refine lv_aload_n hx hb dX2_init_9 rfl (lv_at hl 0 rfl) ?_
  refine lv_aload_n hx hb dX2_init_10 rfl (lv_at hl 2 rfl) ?_
  refine va_putF (D := (dC, dI)) (ci := 2) (v := .ref gf) (ty := .object "LoopEnvelopes$Frames") (C := RX2) (T := TX2) (N := 5) hx hb hts inAll_2 tyX2 tyX2_ok nmX2 hown hK hP hD hS 0 rfl rfl 1 (by decide) (hts (.fieldLink RX2 15 "LoopEnvelopes$Judge" "frames" "LLoopEnvelopes$Frames;") k_45) (fun _ h9 => h9) rfl hin rfl (by decide +kernel) rfl rfl (Nat.le_of_ble_eq_true rfl) dX2_init_11 (fun H locs hP hD hS => ?_)
  have hP : va_P (dC, dI) vwCl [(a0, .inr (2, [.ref gs, .ref gf, .null, .int 0, .int 0]))] H := hP
  have hD : va_D A [(a0, .inr (2, [.ref gs, .ref gf, .null, .int 0, .int 0]))] := hD
  refine lv_aload_n hx hb dX2_init_14 rfl (lv_at hl 0 rfl) ?_
  refine va_new (ci := 4) (fs := [.int 0, .int 0, .null]) (C := RX4) (T := TX4) (N := 3) hx hb hts inAll_4 tyX4 tyX4_ok hown (hts (.classLink RX2 19 RX4) k_46) (hts (.instantiable RX4 3) k_25) (hts (.initialized RX4) k_26) hK hP hD hS hA rfl (fun j hj => by rcases (show j = 0 ∨ j = 1 ∨ j = 2 by omega) with rfl | rfl | rfl <;> rfl) (Nat.le_of_ble_eq_true rfl) (Nat.le_of_ble_eq_true rfl) dX2_init_15 (fun q1 H hP hD hS => ?_)
  have hP : va_P (dC, dI) vwCl [(a0, .inr (2, [.ref gs, .ref gf, .null, .int 0, .int 0])), (q1, .inr (4, [.int 0, .int 0, .null]))] H := hP
  have hD : va_D A [(a0, .inr (2, [.ref gs, .ref gf, .null, .int 0, .int 0])), (q1, .inr (4, [.int 0, .int 0, .null]))] := hD
  refine W.widen (k := 1) (n := 3) (Nat.le_of_ble_eq_true rfl) (Nat.le_of_ble_eq_true rfl) ?_
  refine lv_dup hx hb dX2_init_18 rfl ?_
  refine lv_bipush (v := 120) hx hb dX2_init_19 (by decide) ?_
  refine lv_iconst (v := 4) hx hb dX2_init_21 (by decide) ?_
  have hPc := hP.sub (ws' := [(q1, .inr (4, [.int 0, .int 0, .null]))]) [1] rfl
  have hDc := hD.sub (ws' := [(q1, .inr (4, [.int 0, .int 0, .null]))]) [1] (by decide) rfl
  have hKc := hK.sub (tys' := []) [] rfl
  have hFc := va_free (wc := [(q1, .inr (4, [.int 0, .int 0, .null]))]) hD hS hA [1] rfl
  refine va_callv (va_runI (As := [.int 120, .int 4]) (rest := [.ref q1, .ref a0]) ⟨hx, hb, hml, hown, hts⟩ (c_X4_init l dC dI H.size q1 120 4 480 (by decide) (rfl) (Nat.le_of_ble_eq_true rfl)) (cwI 2 hts gg_i_X4_init rfl rfl rfl (hts (.initialized RX4) k_26) (hts (.methodLink RX2 21 yX4_init) k_47) (hts (.instanceMethod yX4_init) k_29) rfl (by decide +kernel) ⟨Nat.le_of_ble_eq_true rfl, Nat.le_of_ble_eq_true rfl⟩) ⟨fun a U g mk q => by obtain ⟨q0, q1, qP, qK, qD⟩ := q; exact ⟨q0, q1, qP, va_K.moved (u := U) (U := U.calling g mk a) (Vm.Alike.refl U.vm) qK, qD⟩, fun U hU hW => ⟨rfl, by rw [hU], by rw [hU]; exact hPc, va_K.moved hW.alike hKc, hDc.weaken (fun _ _ _ _ => trivial)⟩⟩ rfl rfl hl.1 rfl (lv_room (Nat.le_of_ble_eq_true rfl)) dX2_init_22 ⟨Nat.le_of_ble_eq_true rfl, Nat.le_of_ble_eq_true rfl⟩) hS (fun q _ h => hFc q h) hFc (fun u t H1 locs ht hvm hw hB hz1 hk1 hS => ?_)
  obtain ⟨hP1, hK1, hD1⟩ := hB
  rw [ht] at hP1
  have hK1 := va_K.moved hvm.symm hK1
  obtain ⟨hP, hD⟩ := va_join (wr := [(a0, .inr (2, [.ref gs, .ref gf, .null, .int 0, .int 0]))]) (w1 := []) hP hD [1] [0] rfl rfl (by decide) (by decide) hk1 hFc hP1 hD1
  have hK := (hK.sub (tys' := []) [] rfl).app hK1
  generalize H1 = H at hP hS ⊢
  have hP : va_P (dC, dI) vwCl [(a0, .inr (2, [.ref gs, .ref gf, .null, .int 0, .int 0]))] H := hP
  have hD : va_D A [(a0, .inr (2, [.ref gs, .ref gf, .null, .int 0, .int 0]))] := hD
  have hK : va_K (dC, dI) vwCl [] s := hK
  refine W.widen (k := 2) (n := 483) (Nat.le_of_ble_eq_true rfl) (Nat.le_of_ble_eq_true rfl) ?_
  refine va_putF (D := (dC, dI)) (ci := 2) (v := .ref q1) (ty := .object "LoopEnvelopes$Table") (C := RX2) (T := TX2) (N := 5) hx hb hts inAll_2 tyX2 tyX2_ok nmX2 hown hK hP hD hS 0 rfl rfl 2 (by decide) (hts (.fieldLink RX2 24 "LoopEnvelopes$Judge" "marks" "LLoopEnvelopes$Table;") k_48) (fun _ h9 => h9) rfl hin rfl (by decide +kernel) rfl rfl (Nat.le_of_ble_eq_true rfl) dX2_init_25 (fun H locs hP hD hS => ?_)
  have hP : va_P (dC, dI) vwCl [(a0, .inr (2, [.ref gs, .ref gf, .ref q1, .int 0, .int 0]))] H := hP
  have hD : va_D A [(a0, .inr (2, [.ref gs, .ref gf, .ref q1, .int 0, .int 0]))] := hD
  refine lv_aload_n hx hb dX2_init_28 rfl (lv_at hl 0 rfl) ?_
  refine lv_iconst (v := 0) hx hb dX2_init_29 (by decide) ?_
  refine va_put (D := (dC, dI)) (ci := 2) (v := .int 0) (ty := .int) (C := RX2) (T := TX2) (N := 5) hx hb hts inAll_2 tyX2 tyX2_ok nmX2 hown hK hP hD hS 0 rfl rfl 3 (by decide) (hts (.fieldLink RX2 28 "LoopEnvelopes$Judge" "first" "I") k_49) (fun _ h9 => h9) rfl (by decide +kernel) rfl rfl (Nat.le_of_ble_eq_true rfl) dX2_init_30 (fun H locs hP hD hS => ?_)
  have hP : va_P (dC, dI) vwCl [(a0, .inr (2, [.ref gs, .ref gf, .ref q1, .int 0, .int 0]))] H := hP
  have hD : va_D A [(a0, .inr (2, [.ref gs, .ref gf, .ref q1, .int 0, .int 0]))] := hD
  refine lv_aload_n hx hb dX2_init_33 rfl (lv_at hl 0 rfl) ?_
  refine lv_iconst (v := 0) hx hb dX2_init_34 (by decide) ?_
  refine va_put (D := (dC, dI)) (ci := 2) (v := .int 0) (ty := .int) (C := RX2) (T := TX2) (N := 5) hx hb hts inAll_2 tyX2 tyX2_ok nmX2 hown hK hP hD hS 0 rfl rfl 4 (by decide) (hts (.fieldLink RX2 32 "LoopEnvelopes$Judge" "end" "I") k_50) (fun _ h9 => h9) rfl (by decide +kernel) rfl rfl (Nat.le_of_ble_eq_true rfl) dX2_init_35 (fun H locs hP hD hS => ?_)
  have hP : va_P (dC, dI) vwCl [(a0, .inr (2, [.ref gs, .ref gf, .ref q1, .int 0, .int 0]))] H := hP
  have hD : va_D A [(a0, .inr (2, [.ref gs, .ref gf, .ref q1, .int 0, .int 0]))] := hD
  have hP9 := hP.sub (ws' := []) [] rfl
  have hD9 := hD.sub (ws' := []) [] (by decide) rfl
  have hK9 := hK.sub (tys' := []) [] rfl
  refine W.widen (k := 2) (n := 483) (Nat.le_of_ble_eq_true rfl) (Nat.le_of_ble_eq_true rfl) ?_
  exact W.vret hx hb hr (fun t ht hW => ⟨⟨(), rfl, trivial, by rw [ht]; exact hP9, va_K.moved hW.alike hK9, hD9⟩, hS.F ht⟩) hS.2.2 dX2_init_38

set_option maxHeartbeats 4000000 in
set_option maxRecDepth 100000 in
/-- Writer(segments) -/
theorem c_X5_init (l : Launch) (dC : Nat → ClassId) (dI : Nat → Nat → Nat) (sz : Nat) (a0 : Nat) (gs : Nat) : Met l yX5_init pwX5_init ({ frames := 2, cells := 2, slots := 2002, locals := 41 } : Room) (va_Pc [.ref a0, .ref gs] (fun U => U.heap.size = sz ∧ va_P (dC, dI) vwCl [(a0, .inr (5, [.null, .null, .int 0]))] U.heap ∧ va_K (dC, dI) vwCl [] U ∧ va_D (fun _ => True) [(a0, .inr (5, [.null, .null, .int 0]))])) (va_Qv (fun _ : Unit => True) (fun (_ : Unit) (t : State) => ∃ (qb : Nat) (qa : Nat), va_P (dC, dI) vwCl [(a0, .inr (5, [.ref gs, .ref qb, .int 0])), (qb, .inr (0, [.ref qa, .int 0]))] t.heap ∧ va_K (dC, dI) vwCl [] t ∧ va_D (va_A [(a0, .inr (5, [.null, .null, .int 0]))] sz) [(a0, .inr (5, [.ref gs, .ref qb, .int 0])), (qb, .inr (0, [.ref qa, .int 0]))]) (va_A [(a0, .inr (5, [.null, .null, .int 0]))] sz)) 2 2002 (va_A [(a0, .inr (5, [.null, .null, .int 0]))] sz) := by
  refine Met.ofW (cc := cX5_init) (maxL := 2) (ret := none) (by decide) rfl ?_
  intro p e s m args below meth c s₁ B hml hv
  obtain ⟨rfl, hsz, hP, hK, hD0⟩ := hv
  have hx := B.exec
  have hb := B.bytes
  have hr := B.returns
  have hts0 := atoms_spec (ws := pwX5_init) B.pre
  have hts := fun w (h : w ∈ pwAll) => hts0 w (List.mem_cons_of_mem _ h)
  have hown : s.vm.findClass RX5 = some m.cls := findClass_of_methodNamed B.named
  have hlocks := B.notSynchronized
  have hin : meth.name = "<init>" := (name_of_methodNamed B.named B.method).1
  subst hsz
  have hD := hD0.self (sz := s.heap.size)
  generalize hAe : va_A [(a0, .inr (5, [.null, .null, .int 0]))] s.heap.size = A at hD ⊢
  have hA : ∀ q : Nat, s.heap.size ≤ q → A q := fun q h => by rw [← hAe]; exact Or.inr h
  have hS : va_S A s.heap s.heap [] := va_S.rf
  have hP : va_P (dC, dI) vwCl [(a0, .inr (5, [.null, .null, .int 0]))] s.heap := hP
  have hl := lv_entry ([.ref a0, .ref gs]) (n := 2) (Nat.le_of_ble_eq_true rfl)
  rw [lg_entry_eq]
  generalize (lg_sl ([.ref a0, .ref gs]) ++ List.replicate (2 - (lg_sl ([.ref a0, .ref gs])).length) Slot.unset).toArray = ls at hl ⊢
  have hl : lv_has ls 2 [(0, .ref a0), (1, .ref gs)] := hl
  refine lv_aload_n hx hb dX5_init_0 rfl (lv_at hl 0 rfl) ?_
  refine W.objInit hx hb hown (hts (.methodLink RX5 3 objectInit) k_51) (hts (.instanceMethod objectInit) k_1) (hts (.code objectInit ⟨#[0xb1]⟩ 1 none) k_2) rfl (by rw [hml]; exact hl.1) rfl dX5_init_1 (Nat.le_of_ble_eq_true rfl) (Nat.le_of_ble_eq_true rfl) ?_
  refine W.eq (g2 := F0 m 4 ls []) rfl ?_
  refine lv_aload_n hx hb dX5_init_4 rfl (lv_at hl 0 rfl) ?_
  refine lv_aload_n hx hb dX5_init_5 rfl (lv_at hl 1 rfl) ?_
  refine va_putF (D := (dC, dI)) (ci := 5) (v := .ref gs) (ty := .object "LoopEnvelopes$Segments") (C := RX5) (T := TX5) (N := 3) hx hb hts inAll_5 tyX5 tyX5_ok nmX5 hown hK hP hD hS 0 rfl rfl 0 (by decide) (hts (.fieldLink RX5 9 "LoopEnvelopes$Writer" "segments" "LLoopEnvelopes$Segments;") k_52) (fun _ h9 => h9) rfl hin rfl (by decide +kernel) rfl rfl (Nat.le_of_ble_eq_true rfl) dX5_init_6 (fun H locs hP hD hS => ?_)
  have hP : va_P (dC, dI) vwCl [(a0, .inr (5, [.ref gs, .null, .int 0]))] H := hP
  have hD : va_D A [(a0, .inr (5, [.ref gs, .null, .int 0]))] := hD
  refine lv_aload_n hx hb dX5_init_9 rfl (lv_at hl 0 rfl) ?_
  refine va_new (ci := 0) (fs := [.null, .int 0]) (C := RX0) (T := TX0) (N := 2) hx hb hts inAll_0 tyX0 tyX0_ok hown (hts (.classLink RX5 15 RX0) k_53) (hts (.instantiable RX0 2) k_18) (hts (.initialized RX0) k_19) hK hP hD hS hA rfl (fun j hj => by rcases (show j = 0 ∨ j = 1 by omega) with rfl | rfl <;> rfl) (Nat.le_of_ble_eq_true rfl) (Nat.le_of_ble_eq_true rfl) dX5_init_10 (fun q1 H hP hD hS => ?_)
  have hP : va_P (dC, dI) vwCl [(a0, .inr (5, [.ref gs, .null, .int 0])), (q1, .inr (0, [.null, .int 0]))] H := hP
  have hD : va_D A [(a0, .inr (5, [.ref gs, .null, .int 0])), (q1, .inr (0, [.null, .int 0]))] := hD
  refine W.widen (k := 1) (n := 2) (Nat.le_of_ble_eq_true rfl) (Nat.le_of_ble_eq_true rfl) ?_
  refine lv_dup hx hb dX5_init_13 rfl ?_
  refine lv_sipush (v := 2000) hx hb dX5_init_14 (by decide) ?_
  have hPc := hP.sub (ws' := [(q1, .inr (0, [.null, .int 0]))]) [1] rfl
  have hDc := hD.sub (ws' := [(q1, .inr (0, [.null, .int 0]))]) [1] (by decide) rfl
  have hKc := hK.sub (tys' := []) [] rfl
  have hFc := va_free (wc := [(q1, .inr (0, [.null, .int 0]))]) hD hS hA [1] rfl
  refine va_callv (va_runI (As := [.int 2000]) (rest := [.ref q1, .ref a0]) ⟨hx, hb, hml, hown, hts⟩ (c_X0_init l dC dI H.size q1 2000 2000 (by decide) (rfl) (Nat.le_of_ble_eq_true rfl)) (cwI 1 hts gg_i_X0_init rfl rfl rfl (hts (.initialized RX0) k_19) (hts (.methodLink RX5 17 yX0_init) k_54) (hts (.instanceMethod yX0_init) k_22) rfl (by decide +kernel) ⟨Nat.le_of_ble_eq_true rfl, Nat.le_of_ble_eq_true rfl⟩) ⟨fun a U g mk q => by obtain ⟨q0, q1, qP, qK, qD⟩ := q; exact ⟨q0, q1, qP, va_K.moved (u := U) (U := U.calling g mk a) (Vm.Alike.refl U.vm) qK, qD⟩, fun U hU hW => ⟨rfl, by rw [hU], by rw [hU]; exact hPc, va_K.moved hW.alike hKc, hDc.weaken (fun _ _ _ _ => trivial)⟩⟩ rfl rfl hl.1 rfl (lv_room (Nat.le_of_ble_eq_true rfl)) dX5_init_17 ⟨Nat.le_of_ble_eq_true rfl, Nat.le_of_ble_eq_true rfl⟩) hS (fun q _ h => hFc q h) hFc (fun u t H1 locs ht hvm hw hB hz1 hk1 hS => ?_)
  obtain ⟨qa3, cA4, hP1, hK1, hD1⟩ := hB
  rw [ht] at hP1
  have hK1 := va_K.moved hvm.symm hK1
  obtain ⟨hP, hD⟩ := va_join (wr := [(a0, .inr (5, [.ref gs, .null, .int 0]))]) (w1 := [(q1, .inr (0, [.ref qa3, .int 0])), (qa3, .inl (cA4, 2000, .inl (fun _ => 0)))]) hP hD [1] [0] rfl rfl (by decide) (by decide) hk1 hFc hP1 hD1
  have hK := (hK.sub (tys' := []) [] rfl).app hK1
  generalize H1 = H at hP hS ⊢
  have hP : va_P (dC, dI) vwCl [(a0, .inr (5, [.ref gs, .null, .int 0])), (q1, .inr (0, [.ref qa3, .int 0])), (qa3, .inl (cA4, 2000, .inl (fun _ => 0)))] H := hP
  have hD : va_D A [(a0, .inr (5, [.ref gs, .null, .int 0])), (q1, .inr (0, [.ref qa3, .int 0])), (qa3, .inl (cA4, 2000, .inl (fun _ => 0)))] := hD
  have hK : va_K (dC, dI) vwCl [(cA4, .byte)] s := hK
  refine W.widen (k := 2) (n := 2002) (Nat.le_of_ble_eq_true rfl) (Nat.le_of_ble_eq_true rfl) ?_
  refine va_putF (D := (dC, dI)) (ci := 5) (v := .ref q1) (ty := .object "LoopEnvelopes$Bytes") (C := RX5) (T := TX5) (N := 3) hx hb hts inAll_5 tyX5 tyX5_ok nmX5 hown hK hP hD hS 0 rfl rfl 1 (by decide) (hts (.fieldLink RX5 20 "LoopEnvelopes$Writer" "bytes" "LLoopEnvelopes$Bytes;") k_55) (fun _ h9 => h9) rfl hin rfl (by decide +kernel) rfl rfl (Nat.le_of_ble_eq_true rfl) dX5_init_20 (fun H locs hP hD hS => ?_)
  have hP : va_P (dC, dI) vwCl [(a0, .inr (5, [.ref gs, .ref q1, .int 0])), (q1, .inr (0, [.ref qa3, .int 0])), (qa3, .inl (cA4, 2000, .inl (fun _ => 0)))] H := hP
  have hD : va_D A [(a0, .inr (5, [.ref gs, .ref q1, .int 0])), (q1, .inr (0, [.ref qa3, .int 0])), (qa3, .inl (cA4, 2000, .inl (fun _ => 0)))] := hD
  refine lv_aload_n hx hb dX5_init_23 rfl (lv_at hl 0 rfl) ?_
  refine lv_iconst (v := 0) hx hb dX5_init_24 (by decide) ?_
  refine va_put (D := (dC, dI)) (ci := 5) (v := .int 0) (ty := .boolean) (C := RX5) (T := TX5) (N := 3) hx hb hts inAll_5 tyX5 tyX5_ok nmX5 hown hK hP hD hS 0 rfl rfl 2 (by decide) (hts (.fieldLink RX5 24 "LoopEnvelopes$Writer" "over" "Z") k_56) (fun _ h9 => h9) rfl (by decide +kernel) rfl rfl (Nat.le_of_ble_eq_true rfl) dX5_init_25 (fun H locs hP hD hS => ?_)
  have hP : va_P (dC, dI) vwCl [(a0, .inr (5, [.ref gs, .ref q1, .int 0])), (q1, .inr (0, [.ref qa3, .int 0])), (qa3, .inl (cA4, 2000, .inl (fun _ => 0)))] H := hP
  have hD : va_D A [(a0, .inr (5, [.ref gs, .ref q1, .int 0])), (q1, .inr (0, [.ref qa3, .int 0])), (qa3, .inl (cA4, 2000, .inl (fun _ => 0)))] := hD
  have hP9 := hP.sub (ws' := [(a0, .inr (5, [.ref gs, .ref q1, .int 0])), (q1, .inr (0, [.ref qa3, .int 0]))]) [0, 1] rfl
  have hD9 := hD.sub (ws' := [(a0, .inr (5, [.ref gs, .ref q1, .int 0])), (q1, .inr (0, [.ref qa3, .int 0]))]) [0, 1] (by decide) rfl
  have hK9 := hK.sub (tys' := []) [] rfl
  refine W.widen (k := 2) (n := 2002) (Nat.le_of_ble_eq_true rfl) (Nat.le_of_ble_eq_true rfl) ?_
  exact W.vret hx hb hr (fun t ht hW => ⟨⟨(), rfl, trivial, q1, qa3, by rw [ht]; exact hP9, va_K.moved hW.alike hK9, hD9⟩, hS.F ht⟩) hS.2.2 dX5_init_28

set_option maxHeartbeats 4000000 in
set_option maxRecDepth 100000 in
/-- LoopEnvelopes() -/
theorem c_X6_init (l : Launch) (dC : Nat → ClassId) (dI : Nat → Nat → Nat) (sz : Nat) (a0 : Nat) : Met l yX6_init pwX6_init ({ frames := 3, cells := 22, slots := 6831, locals := 64 } : Room) (va_Pc [.ref a0] (fun U => U.heap.size = sz ∧ va_P (dC, dI) vwCl [(a0, .inr (6, [.null, .null, .null, .null, .null, .int 0, .int 0]))] U.heap ∧ va_K (dC, dI) vwCl [] U ∧ va_D (fun _ => True) [(a0, .inr (6, [.null, .null, .null, .null, .null, .int 0, .int 0]))])) (va_Qv (fun _ : Unit => True) (fun (_ : Unit) (t : State) => ∃ (a1 : Nat) (a2 : Nat) (a3 : Nat) (a4 : Nat) (a5 : Nat) (ya : Nat) (b2 : Nat) (t1 : Nat) (t2 : Nat) (t3 : Nat) (yb : Nat) (h1 : Nat) (h2 : Nat) (h3 : Nat) (h4 : Nat) (b5 : Nat) (yc : Nat) (cA : ClassId) (f0 : Nat → Int32), va_P (dC, dI) vwCl [(a0, .inr (6, [.ref a1, .ref a2, .ref a3, .ref a4, .ref a5, .int (-1), .int 0])), (a1, .inr (0, [.ref ya, .int 0])), (ya, .inl (cA, 1200, .inl f0)), (a2, .inr (3, [.ref b2, .ref t1, .ref t2, .ref t3, .int 0])), (b2, .inr (0, [.ref yb, .int 0])), (a3, .inr (1, [.ref h1, .ref h2, .ref h3, .int 0, .int 0, .int 0])), (a5, .inr (5, [.ref h4, .ref b5, .int 0])), (b5, .inr (0, [.ref yc, .int 0]))] t.heap ∧ va_K (dC, dI) vwCl [(cA, .byte)] t ∧ va_D (va_A [(a0, .inr (6, [.null, .null, .null, .null, .null, .int 0, .int 0]))] sz) [(a0, .inr (6, [.ref a1, .ref a2, .ref a3, .ref a4, .ref a5, .int (-1), .int 0])), (a1, .inr (0, [.ref ya, .int 0])), (ya, .inl (cA, 1200, .inl f0)), (a2, .inr (3, [.ref b2, .ref t1, .ref t2, .ref t3, .int 0])), (b2, .inr (0, [.ref yb, .int 0])), (a3, .inr (1, [.ref h1, .ref h2, .ref h3, .int 0, .int 0, .int 0])), (a5, .inr (5, [.ref h4, .ref b5, .int 0])), (b5, .inr (0, [.ref yc, .int 0]))]) (va_A [(a0, .inr (6, [.null, .null, .null, .null, .null, .int 0, .int 0]))] sz)) 22 6831 (va_A [(a0, .inr (6, [.null, .null, .null, .null, .null, .int 0, .int 0]))] sz) := by
  refine Met.ofW (cc := cX6_init) (maxL := 1) (ret := none) (by decide) rfl ?_
  intro p e s m args below meth c s₁ B hml hv
  obtain ⟨rfl, hsz, hP, hK, hD0⟩ := hv
  have hx := B.exec
  have hb := B.bytes
  have hr := B.returns
  have hts0 := atoms_spec (ws := pwX6_init) B.pre
  have hts := fun w (h : w ∈ pwAll) => hts0 w (List.mem_cons_of_mem _ h)
  have hown : s.vm.findClass RX6 = some m.cls := findClass_of_methodNamed B.named
  have hlocks := B.notSynchronized
  have hin : meth.name = "<init>" := (name_of_methodNamed B.named B.method).1
  subst hsz
  have hD := hD0.self (sz := s.heap.size)
  generalize hAe : va_A [(a0, .inr (6, [.null, .null, .null, .null, .null, .int 0, .int 0]))] s.heap.size = A at hD ⊢
  have hA : ∀ q : Nat, s.heap.size ≤ q → A q := fun q h => by rw [← hAe]; exact Or.inr h
  have hS : va_S A s.heap s.heap [] := va_S.rf
  have hP : va_P (dC, dI) vwCl [(a0, .inr (6, [.null, .null, .null, .null, .null, .int 0, .int 0]))] s.heap := hP
  have hl := lv_entry ([.ref a0]) (n := 1) (Nat.le_of_ble_eq_true rfl)
  rw [lg_entry_eq]
  generalize (lg_sl ([.ref a0]) ++ List.replicate (1 - (lg_sl ([.ref a0])).length) Slot.unset).toArray = ls at hl ⊢
  have hl : lv_has ls 1 [(0, .ref a0)] := hl
  refine lv_aload_n hx hb dX6_init_0 rfl (lv_at hl 0 rfl) ?_
  refine W.objInit hx hb hown (hts (.methodLink RX6 3 objectInit) k_57) (hts (.instanceMethod objectInit) k_1) (hts (.code objectInit ⟨#[0xb1]⟩ 1 none) k_2) rfl (by rw [hml]; exact hl.1) rfl dX6_init_1 (Nat.le_of_ble_eq_true rfl) (Nat.le_of_ble_eq_true rfl) ?_
  refine W.eq (g2 := F0 m 4 ls []) rfl ?_
  refine lv_aload_n hx hb dX6_init_4 rfl (lv_at hl 0 rfl) ?_
  refine va_new (ci := 0) (fs := [.null, .int 0]) (C := RX0) (T := TX0) (N := 2) hx hb hts inAll_0 tyX0 tyX0_ok hown (hts (.classLink RX6 9 RX0) k_58) (hts (.instantiable RX0 2) k_18) (hts (.initialized RX0) k_19) hK hP hD hS hA rfl (fun j hj => by rcases (show j = 0 ∨ j = 1 by omega) with rfl | rfl <;> rfl) (Nat.le_of_ble_eq_true rfl) (Nat.le_of_ble_eq_true rfl) dX6_init_5 (fun q1 H hP hD hS => ?_)
  have hP : va_P (dC, dI) vwCl [(a0, .inr (6, [.null, .null, .null, .null, .null, .int 0, .int 0])), (q1, .inr (0, [.null, .int 0]))] H := hP
  have hD : va_D A [(a0, .inr (6, [.null, .null, .null, .null, .null, .int 0, .int 0])), (q1, .inr (0, [.null, .int 0]))] := hD
  refine W.widen (k := 1) (n := 2) (Nat.le_of_ble_eq_true rfl) (Nat.le_of_ble_eq_true rfl) ?_
  refine lv_dup hx hb dX6_init_8 rfl ?_
  refine lv_sipush (v := 1200) hx hb dX6_init_9 (by decide) ?_
  have hPc := hP.sub (ws' := [(q1, .inr (0, [.null, .int 0]))]) [1] rfl
  have hDc := hD.sub (ws' := [(q1, .inr (0, [.null, .int 0]))]) [1] (by decide) rfl
  have hKc := hK.sub (tys' := []) [] rfl
  have hFc := va_free (wc := [(q1, .inr (0, [.null, .int 0]))]) hD hS hA [1] rfl
  refine va_callv (va_runI (As := [.int 1200]) (rest := [.ref q1, .ref a0]) ⟨hx, hb, hml, hown, hts⟩ (c_X0_init l dC dI H.size q1 1200 1200 (by decide) (rfl) (Nat.le_of_ble_eq_true rfl)) (cwI 1 hts gg_i_X0_init rfl rfl rfl (hts (.initialized RX0) k_19) (hts (.methodLink RX6 11 yX0_init) k_59) (hts (.instanceMethod yX0_init) k_22) rfl (by decide +kernel) ⟨Nat.le_of_ble_eq_true rfl, Nat.le_of_ble_eq_true rfl⟩) ⟨fun a U g mk q => by obtain ⟨q0, q1, qP, qK, qD⟩ := q; exact ⟨q0, q1, qP, va_K.moved (u := U) (U := U.calling g mk a) (Vm.Alike.refl U.vm) qK, qD⟩, fun U hU hW => ⟨rfl, by rw [hU], by rw [hU]; exact hPc, va_K.moved hW.alike hKc, hDc.weaken (fun _ _ _ _ => trivial)⟩⟩ rfl rfl hl.1 rfl (lv_room (Nat.le_of_ble_eq_true rfl)) dX6_init_12 ⟨Nat.le_of_ble_eq_true rfl, Nat.le_of_ble_eq_true rfl⟩) hS (fun q _ h => hFc q h) hFc (fun u t H1 locs ht hvm hw hB hz1 hk1 hS => ?_)
  obtain ⟨qa3, cA4, hP1, hK1, hD1⟩ := hB
  rw [ht] at hP1
  have hK1 := va_K.moved hvm.symm hK1
  obtain ⟨hP, hD⟩ := va_join (wr := [(a0, .inr (6, [.null, .null, .null, .null, .null, .int 0, .int 0]))]) (w1 := [(q1, .inr (0, [.ref qa3, .int 0])), (qa3, .inl (cA4, 1200, .inl (fun _ => 0)))]) hP hD [1] [0] rfl rfl (by decide) (by decide) hk1 hFc hP1 hD1
  have hK := (hK.sub (tys' := []) [] rfl).app hK1
  generalize H1 = H at hP hS ⊢
  have hP : va_P (dC, dI) vwCl [(a0, .inr (6, [.null, .null, .null, .null, .null, .int 0, .int 0])), (q1, .inr (0, [.ref qa3, .int 0])), (qa3, .inl (cA4, 1200, .inl (fun _ => 0)))] H := hP
  have hD : va_D A [(a0, .inr (6, [.null, .null, .null, .null, .null, .int 0, .int 0])), (q1, .inr (0, [.ref qa3, .int 0])), (qa3, .inl (cA4, 1200, .inl (fun _ => 0)))] := hD
  have hK : va_K (dC, dI) vwCl [(cA4, .byte)] s := hK
  refine W.widen (k := 2) (n := 1202) (Nat.le_of_ble_eq_true rfl) (Nat.le_of_ble_eq_true rfl) ?_
  refine va_putF (D := (dC, dI)) (ci := 6) (v := .ref q1) (ty := .object "LoopEnvelopes$Bytes") (C := RX6) (T := TX6) (N := 7) hx hb hts inAll_6 tyX6 tyX6_ok nmX6 hown hK hP hD hS 0 rfl rfl 0 (by decide) (hts (.fieldLink RX6 14 "LoopEnvelopes" "text" "LLoopEnvelopes$Bytes;") k_60) (fun _ h9 => h9) rfl hin rfl (by decide +kernel) rfl rfl (Nat.le_of_ble_eq_true rfl) dX6_init_15 (fun H locs hP hD hS => ?_)
  have hP : va_P (dC, dI) vwCl [(a0, .inr (6, [.ref q1, .null, .null, .null, .null, .int 0, .int 0])), (q1, .inr (0, [.ref qa3, .int 0])), (qa3, .inl (cA4, 1200, .inl (fun _ => 0)))] H := hP
  have hD : va_D A [(a0, .inr (6, [.ref q1, .null, .null, .null, .null, .int 0, .int 0])), (q1, .inr (0, [.ref qa3, .int 0])), (qa3, .inl (cA4, 1200, .inl (fun _ => 0)))] := hD
  refine lv_aload_n hx hb dX6_init_18 rfl (lv_at hl 0 rfl) ?_
  refine va_new (ci := 3) (fs := [.null, .null, .null, .null, .int 0]) (C := RX3) (T := TX3) (N := 5) hx hb hts inAll_3 tyX3 tyX3_ok hown (hts (.classLink RX6 18 RX3) k_61) (hts (.instantiable RX3 5) k_62) (hts (.initialized RX3) k_63) hK hP hD hS hA rfl (fun j hj => by rcases (show j = 0 ∨ j = 1 ∨ j = 2 ∨ j = 3 ∨ j = 4 by omega) with rfl | rfl | rfl | rfl | rfl <;> rfl) (Nat.le_of_ble_eq_true rfl) (Nat.le_of_ble_eq_true rfl) dX6_init_19 (fun q5 H hP hD hS => ?_)
  have hP : va_P (dC, dI) vwCl [(a0, .inr (6, [.ref q1, .null, .null, .null, .null, .int 0, .int 0])), (q1, .inr (0, [.ref qa3, .int 0])), (qa3, .inl (cA4, 1200, .inl (fun _ => 0))), (q5, .inr (3, [.null, .null, .null, .null, .int 0]))] H := hP
  have hD : va_D A [(a0, .inr (6, [.ref q1, .null, .null, .null, .null, .int 0, .int 0])), (q1, .inr (0, [.ref qa3, .int 0])), (qa3, .inl (cA4, 1200, .inl (fun _ => 0))), (q5, .inr (3, [.null, .null, .null, .null, .int 0]))] := hD
  refine W.widen (k := 3) (n := 1207) (Nat.le_of_ble_eq_true rfl) (Nat.le_of_ble_eq_true rfl) ?_
  refine lv_dup hx hb dX6_init_22 rfl ?_
  have hPc := hP.sub (ws' := [(q5, .inr (3, [.null, .null, .null, .null, .int 0]))]) [3] rfl
  have hDc := hD.sub (ws' := [(q5, .inr (3, [.null, .null, .null, .null, .int 0]))]) [3] (by decide) rfl
  have hKc := hK.sub (tys' := []) [] rfl
  have hFc := va_free (wc := [(q5, .inr (3, [.null, .null, .null, .null, .int 0]))]) hD hS hA [3] rfl
  refine va_callv (va_runI (As := []) (rest := [.ref q5, .ref a0]) ⟨hx, hb, hml, hown, hts⟩ (c_X3_init l dC dI H.size q5) (cwI 0 hts gg_i_X3_init rfl rfl rfl (hts (.initialized RX3) k_63) (hts (.methodLink RX6 20 yX3_init) k_65) (hts (.instanceMethod yX3_init) k_66) rfl (by decide +kernel) ⟨Nat.le_of_ble_eq_true rfl, Nat.le_of_ble_eq_true rfl⟩) ⟨fun a U g mk q => by obtain ⟨q0, q1, qP, qK, qD⟩ := q; exact ⟨q0, q1, qP, va_K.moved (u := U) (U := U.calling g mk a) (Vm.Alike.refl U.vm) qK, qD⟩, fun U hU hW => ⟨rfl, by rw [hU], by rw [hU]; exact hPc, va_K.moved hW.alike hKc, hDc.weaken (fun _ _ _ _ => trivial)⟩⟩ rfl rfl hl.1 rfl (lv_room (Nat.le_of_ble_eq_true rfl)) dX6_init_23 ⟨Nat.le_of_ble_eq_true rfl, Nat.le_of_ble_eq_true rfl⟩) hS (fun q _ h => hFc q h) hFc (fun u t H1 locs ht hvm hw hB hz1 hk1 hS => ?_)
  obtain ⟨qb7, qa8, qc9, qd10, qe11, hP1, hK1, hD1⟩ := hB
  rw [ht] at hP1
  have hK1 := va_K.moved hvm.symm hK1
  obtain ⟨hP, hD⟩ := va_join (wr := [(a0, .inr (6, [.ref q1, .null, .null, .null, .null, .int 0, .int 0])), (q1, .inr (0, [.ref qa3, .int 0])), (qa3, .inl (cA4, 1200, .inl (fun _ => 0)))]) (w1 := [(q5, .inr (3, [.ref qb7, .ref qc9, .ref qd10, .ref qe11, .int 0])), (qb7, .inr (0, [.ref qa8, .int 0]))]) hP hD [3] [0, 1, 2] rfl rfl (by decide) (by decide) hk1 hFc hP1 hD1
  have hK := (hK.sub (tys' := [(cA4, .byte)]) [0] rfl).app hK1
  generalize H1 = H at hP hS ⊢
  have hP : va_P (dC, dI) vwCl [(a0, .inr (6, [.ref q1, .null, .null, .null, .null, .int 0, .int 0])), (q1, .inr (0, [.ref qa3, .int 0])), (qa3, .inl (cA4, 1200, .inl (fun _ => 0))), (q5, .inr (3, [.ref qb7, .ref qc9, .ref qd10, .ref qe11, .int 0])), (qb7, .inr (0, [.ref qa8, .int 0]))] H := hP
  have hD : va_D A [(a0, .inr (6, [.ref q1, .null, .null, .null, .null, .int 0, .int 0])), (q1, .inr (0, [.ref qa3, .int 0])), (qa3, .inl (cA4, 1200, .inl (fun _ => 0))), (q5, .inr (3, [.ref qb7, .ref qc9, .ref qd10, .ref qe11, .int 0])), (qb7, .inr (0, [.ref qa8, .int 0]))] := hD
  have hK : va_K (dC, dI) vwCl [(cA4, .byte)] s := hK
  refine W.widen (k := 11) (n := 3858) (Nat.le_of_ble_eq_true rfl) (Nat.le_of_ble_eq_true rfl) ?_
  refine va_putF (D := (dC, dI)) (ci := 6) (v := .ref q5) (ty := .object "LoopEnvelopes$Segments") (C := RX6) (T := TX6) (N := 7) hx hb hts inAll_6 tyX6 tyX6_ok nmX6 hown hK hP hD hS 0 rfl rfl 1 (by decide) (hts (.fieldLink RX6 21 "LoopEnvelopes" "segments" "LLoopEnvelopes$Segments;") k_67) (fun _ h9 => h9) rfl hin rfl (by decide +kernel) rfl rfl (Nat.le_of_ble_eq_true rfl) dX6_init_26 (fun H locs hP hD hS => ?_)
  have hP : va_P (dC, dI) vwCl [(a0, .inr (6, [.ref q1, .ref q5, .null, .null, .null, .int 0, .int 0])), (q1, .inr (0, [.ref qa3, .int 0])), (qa3, .inl (cA4, 1200, .inl (fun _ => 0))), (q5, .inr (3, [.ref qb7, .ref qc9, .ref qd10, .ref qe11, .int 0])), (qb7, .inr (0, [.ref qa8, .int 0]))] H := hP
  have hD : va_D A [(a0, .inr (6, [.ref q1, .ref q5, .null, .null, .null, .int 0, .int 0])), (q1, .inr (0, [.ref qa3, .int 0])), (qa3, .inl (cA4, 1200, .inl (fun _ => 0))), (q5, .inr (3, [.ref qb7, .ref qc9, .ref qd10, .ref qe11, .int 0])), (qb7, .inr (0, [.ref qa8, .int 0]))] := hD
  refine lv_aload_n hx hb dX6_init_29 rfl (lv_at hl 0 rfl) ?_
  refine va_new (ci := 1) (fs := [.null, .null, .null, .int 0, .int 0, .int 0]) (C := RX1) (T := TX1) (N := 6) hx hb hts inAll_1 tyX1 tyX1_ok hown (hts (.classLink RX6 25 RX1) k_68) (hts (.instantiable RX1 6) k_69) (hts (.initialized RX1) k_70) hK hP hD hS hA rfl (fun j hj => by rcases (show j = 0 ∨ j = 1 ∨ j = 2 ∨ j = 3 ∨ j = 4 ∨ j = 5 by omega) with rfl | rfl | rfl | rfl | rfl | rfl <;> rfl) (Nat.le_of_ble_eq_true rfl) (Nat.le_of_ble_eq_true rfl) dX6_init_30 (fun q12 H hP hD hS => ?_)
  have hP : va_P (dC, dI) vwCl [(a0, .inr (6, [.ref q1, .ref q5, .null, .null, .null, .int 0, .int 0])), (q1, .inr (0, [.ref qa3, .int 0])), (qa3, .inl (cA4, 1200, .inl (fun _ => 0))), (q5, .inr (3, [.ref qb7, .ref qc9, .ref qd10, .ref qe11, .int 0])), (qb7, .inr (0, [.ref qa8, .int 0])), (q12, .inr (1, [.null, .null, .null, .int 0, .int 0, .int 0]))] H := hP
  have hD : va_D A [(a0, .inr (6, [.ref q1, .ref q5, .null, .null, .null, .int 0, .int 0])), (q1, .inr (0, [.ref qa3, .int 0])), (qa3, .inl (cA4, 1200, .inl (fun _ => 0))), (q5, .inr (3, [.ref qb7, .ref qc9, .ref qd10, .ref qe11, .int 0])), (qb7, .inr (0, [.ref qa8, .int 0])), (q12, .inr (1, [.null, .null, .null, .int 0, .int 0, .int 0]))] := hD
  refine W.widen (k := 12) (n := 3864) (Nat.le_of_ble_eq_true rfl) (Nat.le_of_ble_eq_true rfl) ?_
  refine lv_dup hx hb dX6_init_33 rfl ?_
  refine lv_aload_n hx hb dX6_init_34 rfl (lv_at hl 0 rfl) ?_
  refine va_get (D := (dC, dI)) (ci := 6) (v := .ref q5) (C := RX6) (T := TX6) (N := 7) hx hb hts inAll_6 hown hK hP 0 rfl rfl 1 (by decide) (hts (.fieldLink RX6 21 "LoopEnvelopes" "segments" "LLoopEnvelopes$Segments;") k_67) (fun _ h9 => h9) rfl dX6_init_35 ?_
  have hPc := hP.sub (ws' := [(q12, .inr (1, [.null, .null, .null, .int 0, .int 0, .int 0]))]) [5] rfl
  have hDc := hD.sub (ws' := [(q12, .inr (1, [.null, .null, .null, .int 0, .int 0, .int 0]))]) [5] (by decide) rfl
  have hKc := hK.sub (tys' := []) [] rfl
  have hFc := va_free (wc := [(q12, .inr (1, [.null, .null, .null, .int 0, .int 0, .int 0]))]) hD hS hA [5] rfl
  refine va_callv (va_runI (As := [.ref q5]) (rest := [.ref q12, .ref a0]) ⟨hx, hb, hml, hown, hts⟩ (c_X1_init l dC dI H.size q12 q5) (cwI 1 hts gg_i_X1_init rfl rfl rfl (hts (.initialized RX1) k_70) (hts (.methodLink RX6 27 yX1_init) k_72) (hts (.instanceMethod yX1_init) k_73) rfl (by decide +kernel) ⟨Nat.le_of_ble_eq_true rfl, Nat.le_of_ble_eq_true rfl⟩) ⟨fun a U g mk q => by obtain ⟨q0, q1, qP, qK, qD⟩ := q; exact ⟨q0, q1, qP, va_K.moved (u := U) (U := U.calling g mk a) (Vm.Alike.refl U.vm) qK, qD⟩, fun U hU hW => ⟨rfl, by rw [hU], by rw [hU]; exact hPc, va_K.moved hW.alike hKc, hDc.weaken (fun _ _ _ _ => trivial)⟩⟩ rfl rfl hl.1 rfl (lv_room (Nat.le_of_ble_eq_true rfl)) dX6_init_38 ⟨Nat.le_of_ble_eq_true rfl, Nat.le_of_ble_eq_true rfl⟩) hS (fun q _ h => hFc q h) hFc (fun u t H1 locs ht hvm hw hB hz1 hk1 hS => ?_)
  obtain ⟨qc14, qd15, hP1, hK1, hD1⟩ := hB
  rw [ht] at hP1
  have hK1 := va_K.moved hvm.symm hK1
  obtain ⟨hP, hD⟩ := va_join (wr := [(a0, .inr (6, [.ref q1, .ref q5, .null, .null, .null, .int 0, .int 0])), (q1, .inr (0, [.ref qa3, .int 0])), (qa3, .inl (cA4, 1200, .inl (fun _ => 0))), (q5, .inr (3, [.ref qb7, .ref qc9, .ref qd10, .ref qe11, .int 0])), (qb7, .inr (0, [.ref qa8, .int 0]))]) (w1 := [(q12, .inr (1, [.ref q5, .ref qc14, .ref qd15, .int 0, .int 0, .int 0]))]) hP hD [5] [0, 1, 2, 3, 4] rfl rfl (by decide) (by decide) hk1 hFc hP1 hD1
  have hK := (hK.sub (tys' := [(cA4, .byte)]) [0] rfl).app hK1
  generalize H1 = H at hP hS ⊢
  have hP : va_P (dC, dI) vwCl [(a0, .inr (6, [.ref q1, .ref q5, .null, .null, .null, .int 0, .int 0])), (q1, .inr (0, [.ref qa3, .int 0])), (qa3, .inl (cA4, 1200, .inl (fun _ => 0))), (q5, .inr (3, [.ref qb7, .ref qc9, .ref qd10, .ref qe11, .int 0])), (qb7, .inr (0, [.ref qa8, .int 0])), (q12, .inr (1, [.ref q5, .ref qc14, .ref qd15, .int 0, .int 0, .int 0]))] H := hP
  have hD : va_D A [(a0, .inr (6, [.ref q1, .ref q5, .null, .null, .null, .int 0, .int 0])), (q1, .inr (0, [.ref qa3, .int 0])), (qa3, .inl (cA4, 1200, .inl (fun _ => 0))), (q5, .inr (3, [.ref qb7, .ref qc9, .ref qd10, .ref qe11, .int 0])), (qb7, .inr (0, [.ref qa8, .int 0])), (q12, .inr (1, [.ref q5, .ref qc14, .ref qd15, .int 0, .int 0, .int 0]))] := hD
  have hK : va_K (dC, dI) vwCl [(cA4, .byte)] s := hK
  refine W.widen (k := 16) (n := 4338) (Nat.le_of_ble_eq_true rfl) (Nat.le_of_ble_eq_true rfl) ?_
  refine va_putF (D := (dC, dI)) (ci := 6) (v := .ref q12) (ty := .object "LoopEnvelopes$Frames") (C := RX6) (T := TX6) (N := 7) hx hb hts inAll_6 tyX6 tyX6_ok nmX6 hown hK hP hD hS 0 rfl rfl 2 (by decide) (hts (.fieldLink RX6 30 "LoopEnvelopes" "frames" "LLoopEnvelopes$Frames;") k_74) (fun _ h9 => h9) rfl hin rfl (by decide +kernel) rfl rfl (Nat.le_of_ble_eq_true rfl) dX6_init_41 (fun H locs hP hD hS => ?_)
  have hP : va_P (dC, dI) vwCl [(a0, .inr (6, [.ref q1, .ref q5, .ref q12, .null, .null, .int 0, .int 0])), (q1, .inr (0, [.ref qa3, .int 0])), (qa3, .inl (cA4, 1200, .inl (fun _ => 0))), (q5, .inr (3, [.ref qb7, .ref qc9, .ref qd10, .ref qe11, .int 0])), (qb7, .inr (0, [.ref qa8, .int 0])), (q12, .inr (1, [.ref q5, .ref qc14, .ref qd15, .int 0, .int 0, .int 0]))] H := hP
  have hD : va_D A [(a0, .inr (6, [.ref q1, .ref q5, .ref q12, .null, .null, .int 0, .int 0])), (q1, .inr (0, [.ref qa3, .int 0])), (qa3, .inl (cA4, 1200, .inl (fun _ => 0))), (q5, .inr (3, [.ref qb7, .ref qc9, .ref qd10, .ref qe11, .int 0])), (qb7, .inr (0, [.ref qa8, .int 0])), (q12, .inr (1, [.ref q5, .ref qc14, .ref qd15, .int 0, .int 0, .int 0]))] := hD
  refine lv_aload_n hx hb dX6_init_44 rfl (lv_at hl 0 rfl) ?_
  refine va_new (ci := 2) (fs := [.null, .null, .null, .int 0, .int 0]) (C := RX2) (T := TX2) (N := 5) hx hb hts inAll_2 tyX2 tyX2_ok hown (hts (.classLink RX6 34 RX2) k_75) (hts (.instantiable RX2 5) k_76) (hts (.initialized RX2) k_77) hK hP hD hS hA rfl (fun j hj => by rcases (show j = 0 ∨ j = 1 ∨ j = 2 ∨ j = 3 ∨ j = 4 by omega) with rfl | rfl | rfl | rfl | rfl <;> rfl) (Nat.le_of_ble_eq_true rfl) (Nat.le_of_ble_eq_true rfl) dX6_init_45 (fun q16 H hP hD hS => ?_)
  have hP : va_P (dC, dI) vwCl [(a0, .inr (6, [.ref q1, .ref q5, .ref q12, .null, .null, .int 0, .int 0])), (q1, .inr (0, [.ref qa3, .int 0])), (qa3, .inl (cA4, 1200, .inl (fun _ => 0))), (q5, .inr (3, [.ref qb7, .ref qc9, .ref qd10, .ref qe11, .int 0])), (qb7, .inr (0, [.ref qa8, .int 0])), (q12, .inr (1, [.ref q5, .ref qc14, .ref qd15, .int 0, .int 0, .int 0])), (q16, .inr (2, [.null, .null, .null, .int 0, .int 0]))] H := hP
  have hD : va_D A [(a0, .inr (6, [.ref q1, .ref q5, .ref q12, .null, .null, .int 0, .int 0])), (q1, .inr (0, [.ref qa3, .int 0])), (qa3, .inl (cA4, 1200, .inl (fun _ => 0))), (q5, .inr (3, [.ref qb7, .ref qc9, .ref qd10, .ref qe11, .int 0])), (qb7, .inr (0, [.ref qa8, .int 0])), (q12, .inr (1, [.ref q5, .ref qc14, .ref qd15, .int 0, .int 0, .int 0])), (q16, .inr (2, [.null, .null, .null, .int 0, .int 0]))] := hD
  refine W.widen (k := 17) (n := 4343) (Nat.le_of_ble_eq_true rfl) (Nat.le_of_ble_eq_true rfl) ?_
  refine lv_dup hx hb dX6_init_48 rfl ?_
  refine lv_aload_n hx hb dX6_init_49 rfl (lv_at hl 0 rfl) ?_
  refine va_get (D := (dC, dI)) (ci := 6) (v := .ref q5) (C := RX6) (T := TX6) (N := 7) hx hb hts inAll_6 hown hK hP 0 rfl rfl 1 (by decide) (hts (.fieldLink RX6 21 "LoopEnvelopes" "segments" "LLoopEnvelopes$Segments;") k_67) (fun _ h9 => h9) rfl dX6_init_50 ?_
  refine lv_aload_n hx hb dX6_init_53 rfl (lv_at hl 0 rfl) ?_
  refine va_get (D := (dC, dI)) (ci := 6) (v := .ref q12) (C := RX6) (T := TX6) (N := 7) hx hb hts inAll_6 hown hK hP 0 rfl rfl 2 (by decide) (hts (.fieldLink RX6 30 "LoopEnvelopes" "frames" "LLoopEnvelopes$Frames;") k_74) (fun _ h9 => h9) rfl dX6_init_54 ?_
  have hPc := hP.sub (ws' := [(q16, .inr (2, [.null, .null, .null, .int 0, .int 0]))]) [6] rfl
  have hDc := hD.sub (ws' := [(q16, .inr (2, [.null, .null, .null, .int 0, .int 0]))]) [6] (by decide) rfl
  have hKc := hK.sub (tys' := []) [] rfl
  have hFc := va_free (wc := [(q16, .inr (2, [.null, .null, .null, .int 0, .int 0]))]) hD hS hA [6] rfl
  refine va_callv (va_runI (As := [.ref q5, .ref q12]) (rest := [.ref q16, .ref a0]) ⟨hx, hb, hml, hown, hts⟩ (c_X2_init l dC dI H.size q16 q5 q12) (cwI 2 hts gg_i_X2_init rfl rfl rfl (hts (.initialized RX2) k_77) (hts (.methodLink RX6 36 yX2_init) k_79) (hts (.instanceMethod yX2_init) k_80) rfl (by decide +kernel) ⟨Nat.le_of_ble_eq_true rfl, Nat.le_of_ble_eq_true rfl⟩) ⟨fun a U g mk q => by obtain ⟨q0, q1, qP, qK, qD⟩ := q; exact ⟨q0, q1, qP, va_K.moved (u := U) (U := U.calling g mk a) (Vm.Alike.refl U.vm) qK, qD⟩, fun U hU hW => ⟨rfl, by rw [hU], by rw [hU]; exact hPc, va_K.moved hW.alike hKc, hDc.weaken (fun _ _ _ _ => trivial)⟩⟩ rfl rfl hl.1 rfl (lv_room (Nat.le_of_ble_eq_true rfl)) dX6_init_57 ⟨Nat.le_of_ble_eq_true rfl, Nat.le_of_ble_eq_true rfl⟩) hS (fun q _ h => hFc q h) hFc (fun u t H1 locs ht hvm hw hB hz1 hk1 hS => ?_)
  obtain ⟨hP1, hK1, hD1⟩ := hB
  rw [ht] at hP1
  have hK1 := va_K.moved hvm.symm hK1
  obtain ⟨hP, hD⟩ := va_join (wr := [(a0, .inr (6, [.ref q1, .ref q5, .ref q12, .null, .null, .int 0, .int 0])), (q1, .inr (0, [.ref qa3, .int 0])), (qa3, .inl (cA4, 1200, .inl (fun _ => 0))), (q5, .inr (3, [.ref qb7, .ref qc9, .ref qd10, .ref qe11, .int 0])), (qb7, .inr (0, [.ref qa8, .int 0])), (q12, .inr (1, [.ref q5, .ref qc14, .ref qd15, .int 0, .int 0, .int 0]))]) (w1 := []) hP hD [6] [0, 1, 2, 3, 4, 5] rfl rfl (by decide) (by decide) hk1 hFc hP1 hD1
  have hK := (hK.sub (tys' := [(cA4, .byte)]) [0] rfl).app hK1
  generalize H1 = H at hP hS ⊢
  have hP : va_P (dC, dI) vwCl [(a0, .inr (6, [.ref q1, .ref q5, .ref q12, .null, .null, .int 0, .int 0])), (q1, .inr (0, [.ref qa3, .int 0])), (qa3, .inl (cA4, 1200, .inl (fun _ => 0))), (q5, .inr (3, [.ref qb7, .ref qc9, .ref qd10, .ref qe11, .int 0])), (qb7, .inr (0, [.ref qa8, .int 0])), (q12, .inr (1, [.ref q5, .ref qc14, .ref qd15, .int 0, .int 0, .int 0]))] H := hP
  have hD : va_D A [(a0, .inr (6, [.ref q1, .ref q5, .ref q12, .null, .null, .int 0, .int 0])), (q1, .inr (0, [.ref qa3, .int 0])), (qa3, .inl (cA4, 1200, .inl (fun _ => 0))), (q5, .inr (3, [.ref qb7, .ref qc9, .ref qd10, .ref qe11, .int 0])), (qb7, .inr (0, [.ref qa8, .int 0])), (q12, .inr (1, [.ref q5, .ref qc14, .ref qd15, .int 0, .int 0, .int 0]))] := hD
  have hK : va_K (dC, dI) vwCl [(cA4, .byte)] s := hK
  refine W.widen (k := 19) (n := 4826) (Nat.le_of_ble_eq_true rfl) (Nat.le_of_ble_eq_true rfl) ?_
  refine va_putF (D := (dC, dI)) (ci := 6) (v := .ref q16) (ty := .object "LoopEnvelopes$Judge") (C := RX6) (T := TX6) (N := 7) hx hb hts inAll_6 tyX6 tyX6_ok nmX6 hown hK hP hD hS 0 rfl rfl 3 (by decide) (hts (.fieldLink RX6 39 "LoopEnvelopes" "judge" "LLoopEnvelopes$Judge;") k_81) (fun _ h9 => h9) rfl hin rfl (by decide +kernel) rfl rfl (Nat.le_of_ble_eq_true rfl) dX6_init_60 (fun H locs hP hD hS => ?_)
  have hP : va_P (dC, dI) vwCl [(a0, .inr (6, [.ref q1, .ref q5, .ref q12, .ref q16, .null, .int 0, .int 0])), (q1, .inr (0, [.ref qa3, .int 0])), (qa3, .inl (cA4, 1200, .inl (fun _ => 0))), (q5, .inr (3, [.ref qb7, .ref qc9, .ref qd10, .ref qe11, .int 0])), (qb7, .inr (0, [.ref qa8, .int 0])), (q12, .inr (1, [.ref q5, .ref qc14, .ref qd15, .int 0, .int 0, .int 0]))] H := hP
  have hD : va_D A [(a0, .inr (6, [.ref q1, .ref q5, .ref q12, .ref q16, .null, .int 0, .int 0])), (q1, .inr (0, [.ref qa3, .int 0])), (qa3, .inl (cA4, 1200, .inl (fun _ => 0))), (q5, .inr (3, [.ref qb7, .ref qc9, .ref qd10, .ref qe11, .int 0])), (qb7, .inr (0, [.ref qa8, .int 0])), (q12, .inr (1, [.ref q5, .ref qc14, .ref qd15, .int 0, .int 0, .int 0]))] := hD
  refine lv_aload_n hx hb dX6_init_63 rfl (lv_at hl 0 rfl) ?_
  refine va_new (ci := 5) (fs := [.null, .null, .int 0]) (C := RX5) (T := TX5) (N := 3) hx hb hts inAll_5 tyX5 tyX5_ok hown (hts (.classLink RX6 43 RX5) k_82) (hts (.instantiable RX5 3) k_83) (hts (.initialized RX5) k_84) hK hP hD hS hA rfl (fun j hj => by rcases (show j = 0 ∨ j = 1 ∨ j = 2 by omega) with rfl | rfl | rfl <;> rfl) (Nat.le_of_ble_eq_true rfl) (Nat.le_of_ble_eq_true rfl) dX6_init_64 (fun q18 H hP hD hS => ?_)
  have hP : va_P (dC, dI) vwCl [(a0, .inr (6, [.ref q1, .ref q5, .ref q12, .ref q16, .null, .int 0, .int 0])), (q1, .inr (0, [.ref qa3, .int 0])), (qa3, .inl (cA4, 1200, .inl (fun _ => 0))), (q5, .inr (3, [.ref qb7, .ref qc9, .ref qd10, .ref qe11, .int 0])), (qb7, .inr (0, [.ref qa8, .int 0])), (q12, .inr (1, [.ref q5, .ref qc14, .ref qd15, .int 0, .int 0, .int 0])), (q18, .inr (5, [.null, .null, .int 0]))] H := hP
  have hD : va_D A [(a0, .inr (6, [.ref q1, .ref q5, .ref q12, .ref q16, .null, .int 0, .int 0])), (q1, .inr (0, [.ref qa3, .int 0])), (qa3, .inl (cA4, 1200, .inl (fun _ => 0))), (q5, .inr (3, [.ref qb7, .ref qc9, .ref qd10, .ref qe11, .int 0])), (qb7, .inr (0, [.ref qa8, .int 0])), (q12, .inr (1, [.ref q5, .ref qc14, .ref qd15, .int 0, .int 0, .int 0])), (q18, .inr (5, [.null, .null, .int 0]))] := hD
  refine W.widen (k := 20) (n := 4829) (Nat.le_of_ble_eq_true rfl) (Nat.le_of_ble_eq_true rfl) ?_
  refine lv_dup hx hb dX6_init_67 rfl ?_
  refine lv_aload_n hx hb dX6_init_68 rfl (lv_at hl 0 rfl) ?_
  refine va_get (D := (dC, dI)) (ci := 6) (v := .ref q5) (C := RX6) (T := TX6) (N := 7) hx hb hts inAll_6 hown hK hP 0 rfl rfl 1 (by decide) (hts (.fieldLink RX6 21 "LoopEnvelopes" "segments" "LLoopEnvelopes$Segments;") k_67) (fun _ h9 => h9) rfl dX6_init_69 ?_
  have hPc := hP.sub (ws' := [(q18, .inr (5, [.null, .null, .int 0]))]) [6] rfl
  have hDc := hD.sub (ws' := [(q18, .inr (5, [.null, .null, .int 0]))]) [6] (by decide) rfl
  have hKc := hK.sub (tys' := []) [] rfl
  have hFc := va_free (wc := [(q18, .inr (5, [.null, .null, .int 0]))]) hD hS hA [6] rfl
  refine va_callv (va_runI (As := [.ref q5]) (rest := [.ref q18, .ref a0]) ⟨hx, hb, hml, hown, hts⟩ (c_X5_init l dC dI H.size q18 q5) (cwI 1 hts gg_i_X5_init rfl rfl rfl (hts (.initialized RX5) k_84) (hts (.methodLink RX6 45 yX5_init) k_86) (hts (.instanceMethod yX5_init) k_87) rfl (by decide +kernel) ⟨Nat.le_of_ble_eq_true rfl, Nat.le_of_ble_eq_true rfl⟩) ⟨fun a U g mk q => by obtain ⟨q0, q1, qP, qK, qD⟩ := q; exact ⟨q0, q1, qP, va_K.moved (u := U) (U := U.calling g mk a) (Vm.Alike.refl U.vm) qK, qD⟩, fun U hU hW => ⟨rfl, by rw [hU], by rw [hU]; exact hPc, va_K.moved hW.alike hKc, hDc.weaken (fun _ _ _ _ => trivial)⟩⟩ rfl rfl hl.1 rfl (lv_room (Nat.le_of_ble_eq_true rfl)) dX6_init_72 ⟨Nat.le_of_ble_eq_true rfl, Nat.le_of_ble_eq_true rfl⟩) hS (fun q _ h => hFc q h) hFc (fun u t H1 locs ht hvm hw hB hz1 hk1 hS => ?_)
  obtain ⟨qb20, qa21, hP1, hK1, hD1⟩ := hB
  rw [ht] at hP1
  have hK1 := va_K.moved hvm.symm hK1
  obtain ⟨hP, hD⟩ := va_join (wr := [(a0, .inr (6, [.ref q1, .ref q5, .ref q12, .ref q16, .null, .int 0, .int 0])), (q1, .inr (0, [.ref qa3, .int 0])), (qa3, .inl (cA4, 1200, .inl (fun _ => 0))), (q5, .inr (3, [.ref qb7, .ref qc9, .ref qd10, .ref qe11, .int 0])), (qb7, .inr (0, [.ref qa8, .int 0])), (q12, .inr (1, [.ref q5, .ref qc14, .ref qd15, .int 0, .int 0, .int 0]))]) (w1 := [(q18, .inr (5, [.ref q5, .ref qb20, .int 0])), (qb20, .inr (0, [.ref qa21, .int 0]))]) hP hD [6] [0, 1, 2, 3, 4, 5] rfl rfl (by decide) (by decide) hk1 hFc hP1 hD1
  have hK := (hK.sub (tys' := [(cA4, .byte)]) [0] rfl).app hK1
  generalize H1 = H at hP hS ⊢
  have hP : va_P (dC, dI) vwCl [(a0, .inr (6, [.ref q1, .ref q5, .ref q12, .ref q16, .null, .int 0, .int 0])), (q1, .inr (0, [.ref qa3, .int 0])), (qa3, .inl (cA4, 1200, .inl (fun _ => 0))), (q5, .inr (3, [.ref qb7, .ref qc9, .ref qd10, .ref qe11, .int 0])), (qb7, .inr (0, [.ref qa8, .int 0])), (q12, .inr (1, [.ref q5, .ref qc14, .ref qd15, .int 0, .int 0, .int 0])), (q18, .inr (5, [.ref q5, .ref qb20, .int 0])), (qb20, .inr (0, [.ref qa21, .int 0]))] H := hP
  have hD : va_D A [(a0, .inr (6, [.ref q1, .ref q5, .ref q12, .ref q16, .null, .int 0, .int 0])), (q1, .inr (0, [.ref qa3, .int 0])), (qa3, .inl (cA4, 1200, .inl (fun _ => 0))), (q5, .inr (3, [.ref qb7, .ref qc9, .ref qd10, .ref qe11, .int 0])), (qb7, .inr (0, [.ref qa8, .int 0])), (q12, .inr (1, [.ref q5, .ref qc14, .ref qd15, .int 0, .int 0, .int 0])), (q18, .inr (5, [.ref q5, .ref qb20, .int 0])), (qb20, .inr (0, [.ref qa21, .int 0]))] := hD
  have hK : va_K (dC, dI) vwCl [(cA4, .byte)] s := hK
  refine W.widen (k := 22) (n := 6831) (Nat.le_of_ble_eq_true rfl) (Nat.le_of_ble_eq_true rfl) ?_
  refine va_putF (D := (dC, dI)) (ci := 6) (v := .ref q18) (ty := .object "LoopEnvelopes$Writer") (C := RX6) (T := TX6) (N := 7) hx hb hts inAll_6 tyX6 tyX6_ok nmX6 hown hK hP hD hS 0 rfl rfl 4 (by decide) (hts (.fieldLink RX6 46 "LoopEnvelopes" "writer" "LLoopEnvelopes$Writer;") k_88) (fun _ h9 => h9) rfl hin rfl (by decide +kernel) rfl rfl (Nat.le_of_ble_eq_true rfl) dX6_init_75 (fun H locs hP hD hS => ?_)
  have hP : va_P (dC, dI) vwCl [(a0, .inr (6, [.ref q1, .ref q5, .ref q12, .ref q16, .ref q18, .int 0, .int 0])), (q1, .inr (0, [.ref qa3, .int 0])), (qa3, .inl (cA4, 1200, .inl (fun _ => 0))), (q5, .inr (3, [.ref qb7, .ref qc9, .ref qd10, .ref qe11, .int 0])), (qb7, .inr (0, [.ref qa8, .int 0])), (q12, .inr (1, [.ref q5, .ref qc14, .ref qd15, .int 0, .int 0, .int 0])), (q18, .inr (5, [.ref q5, .ref qb20, .int 0])), (qb20, .inr (0, [.ref qa21, .int 0]))] H := hP
  have hD : va_D A [(a0, .inr (6, [.ref q1, .ref q5, .ref q12, .ref q16, .ref q18, .int 0, .int 0])), (q1, .inr (0, [.ref qa3, .int 0])), (qa3, .inl (cA4, 1200, .inl (fun _ => 0))), (q5, .inr (3, [.ref qb7, .ref qc9, .ref qd10, .ref qe11, .int 0])), (qb7, .inr (0, [.ref qa8, .int 0])), (q12, .inr (1, [.ref q5, .ref qc14, .ref qd15, .int 0, .int 0, .int 0])), (q18, .inr (5, [.ref q5, .ref qb20, .int 0])), (qb20, .inr (0, [.ref qa21, .int 0]))] := hD
  refine lv_aload_n hx hb dX6_init_78 rfl (lv_at hl 0 rfl) ?_
  refine lv_iconst (v := (-1)) hx hb dX6_init_79 (by decide) ?_
  refine va_put (D := (dC, dI)) (ci := 6) (v := .int (-1)) (ty := .int) (C := RX6) (T := TX6) (N := 7) hx hb hts inAll_6 tyX6 tyX6_ok nmX6 hown hK hP hD hS 0 rfl rfl 5 (by decide) (hts (.fieldLink RX6 50 "LoopEnvelopes" "place" "I") k_89) (fun _ h9 => h9) rfl (by decide +kernel) rfl rfl (Nat.le_of_ble_eq_true rfl) dX6_init_80 (fun H locs hP hD hS => ?_)
  have hP : va_P (dC, dI) vwCl [(a0, .inr (6, [.ref q1, .ref q5, .ref q12, .ref q16, .ref q18, .int (-1), .int 0])), (q1, .inr (0, [.ref qa3, .int 0])), (qa3, .inl (cA4, 1200, .inl (fun _ => 0))), (q5, .inr (3, [.ref qb7, .ref qc9, .ref qd10, .ref qe11, .int 0])), (qb7, .inr (0, [.ref qa8, .int 0])), (q12, .inr (1, [.ref q5, .ref qc14, .ref qd15, .int 0, .int 0, .int 0])), (q18, .inr (5, [.ref q5, .ref qb20, .int 0])), (qb20, .inr (0, [.ref qa21, .int 0]))] H := hP
  have hD : va_D A [(a0, .inr (6, [.ref q1, .ref q5, .ref q12, .ref q16, .ref q18, .int (-1), .int 0])), (q1, .inr (0, [.ref qa3, .int 0])), (qa3, .inl (cA4, 1200, .inl (fun _ => 0))), (q5, .inr (3, [.ref qb7, .ref qc9, .ref qd10, .ref qe11, .int 0])), (qb7, .inr (0, [.ref qa8, .int 0])), (q12, .inr (1, [.ref q5, .ref qc14, .ref qd15, .int 0, .int 0, .int 0])), (q18, .inr (5, [.ref q5, .ref qb20, .int 0])), (qb20, .inr (0, [.ref qa21, .int 0]))] := hD
  refine lv_aload_n hx hb dX6_init_83 rfl (lv_at hl 0 rfl) ?_
  refine lv_iconst (v := 0) hx hb dX6_init_84 (by decide) ?_
  refine va_put (D := (dC, dI)) (ci := 6) (v := .int 0) (ty := .boolean) (C := RX6) (T := TX6) (N := 7) hx hb hts inAll_6 tyX6 tyX6_ok nmX6 hown hK hP hD hS 0 rfl rfl 6 (by decide) (hts (.fieldLink RX6 54 "LoopEnvelopes" "taken" "Z") k_90) (fun _ h9 => h9) rfl (by decide +kernel) rfl rfl (Nat.le_of_ble_eq_true rfl) dX6_init_85 (fun H locs hP hD hS => ?_)
  have hP : va_P (dC, dI) vwCl [(a0, .inr (6, [.ref q1, .ref q5, .ref q12, .ref q16, .ref q18, .int (-1), .int 0])), (q1, .inr (0, [.ref qa3, .int 0])), (qa3, .inl (cA4, 1200, .inl (fun _ => 0))), (q5, .inr (3, [.ref qb7, .ref qc9, .ref qd10, .ref qe11, .int 0])), (qb7, .inr (0, [.ref qa8, .int 0])), (q12, .inr (1, [.ref q5, .ref qc14, .ref qd15, .int 0, .int 0, .int 0])), (q18, .inr (5, [.ref q5, .ref qb20, .int 0])), (qb20, .inr (0, [.ref qa21, .int 0]))] H := hP
  have hD : va_D A [(a0, .inr (6, [.ref q1, .ref q5, .ref q12, .ref q16, .ref q18, .int (-1), .int 0])), (q1, .inr (0, [.ref qa3, .int 0])), (qa3, .inl (cA4, 1200, .inl (fun _ => 0))), (q5, .inr (3, [.ref qb7, .ref qc9, .ref qd10, .ref qe11, .int 0])), (qb7, .inr (0, [.ref qa8, .int 0])), (q12, .inr (1, [.ref q5, .ref qc14, .ref qd15, .int 0, .int 0, .int 0])), (q18, .inr (5, [.ref q5, .ref qb20, .int 0])), (qb20, .inr (0, [.ref qa21, .int 0]))] := hD
  have hP9 := hP.sub (ws' := [(a0, .inr (6, [.ref q1, .ref q5, .ref q12, .ref q16, .ref q18, .int (-1), .int 0])), (q1, .inr (0, [.ref qa3, .int 0])), (qa3, .inl (cA4, 1200, .inl (fun _ => 0))), (q5, .inr (3, [.ref qb7, .ref qc9, .ref qd10, .ref qe11, .int 0])), (qb7, .inr (0, [.ref qa8, .int 0])), (q12, .inr (1, [.ref q5, .ref qc14, .ref qd15, .int 0, .int 0, .int 0])), (q18, .inr (5, [.ref q5, .ref qb20, .int 0])), (qb20, .inr (0, [.ref qa21, .int 0]))]) [0, 1, 2, 3, 4, 5, 6, 7] rfl
  have hD9 := hD.sub (ws' := [(a0, .inr (6, [.ref q1, .ref q5, .ref q12, .ref q16, .ref q18, .int (-1), .int 0])), (q1, .inr (0, [.ref qa3, .int 0])), (qa3, .inl (cA4, 1200, .inl (fun _ => 0))), (q5, .inr (3, [.ref qb7, .ref qc9, .ref qd10, .ref qe11, .int 0])), (qb7, .inr (0, [.ref qa8, .int 0])), (q12, .inr (1, [.ref q5, .ref qc14, .ref qd15, .int 0, .int 0, .int 0])), (q18, .inr (5, [.ref q5, .ref qb20, .int 0])), (qb20, .inr (0, [.ref qa21, .int 0]))]) [0, 1, 2, 3, 4, 5, 6, 7] (by decide) rfl
  have hK9 := hK.sub (tys' := [(cA4, .byte)]) [0] rfl
  refine W.widen (k := 22) (n := 6831) (Nat.le_of_ble_eq_true rfl) (Nat.le_of_ble_eq_true rfl) ?_
  exact W.vret hx hb hr (fun t ht hW => ⟨⟨(), rfl, trivial, q1, q5, q12, q16, q18, qa3, qb7, qc9, qd10, qe11, qa8, q5, qc14, qd15, q5, qb20, qa21, cA4, (fun _ => 0), by rw [ht]; exact hP9, va_K.moved hW.alike hK9, hD9⟩, hS.F ht⟩) hS.2.2 dX6_init_88
