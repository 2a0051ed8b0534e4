set_option maxHeartbeats 4000000 in
set_option maxRecDepth 100000 in
theorem xf_loop {p : Program} {l : Launch} {e : Env} {s : State} {m : MethodId} {args : Array Value} {below : List Frame} {meth : Method} {c : Code} {Q : State → Prop} {dC : Nat → ClassId} {dI : Nat → Nat → Nat} {A : Nat → Prop} {a0 a1 a2 a3 a4 a5 ya : Nat} {cA : ClassId} {ww : Int64} {k0 : Int32} {n : Nat} (hn : n ≤ 8) (hx : p.tables.exec = Jvm.exec) (hb : c.code = cX6_feed) (hml : c.maxLocals = 5) (hts : ∀ w ∈ pwAll, w.before args s = true) (hown : s.vm.findClass RX6 = some m.cls) (hK : va_K (dC, dI) vwCl [(cA, .byte)] s) (hA : ∀ q : Nat, s.heap.size ≤ q → A q)
    (hexit : ∀ (f0 : Nat → Int32) (H : Heap) (locs : List Loc) (ls : Array Slot), va_P (dC, dI) vwCl [(a0, .inr (6, [.ref a1, .ref a2, .ref a3, .ref a4, .ref a5, .int (-1), .int 0])), (a1, .inr (0, [.ref ya, .int (nI n)])), (ya, .inl (cA, 1200, .inl f0))] H → va_D A [(a0, .inr (6, [.ref a1, .ref a2, .ref a3, .ref a4, .ref a5, .int (-1), .int 0])), (a1, .inr (0, [.ref ya, .int (nI n)])), (ya, .inl (cA, 1200, .inl f0))] → va_S A s.heap H locs → lv_has ls 5 [(0, .ref a0), (1, .long ww), (3, .int k0)] → W p l e ({ frames := 1, cells := 0, slots := 0, locals := 21 } : Room) s m args below meth c H locs 0 0 Q (F0 m 68 ls [])) :
    ∀ (k j : Nat), j + k = n → ∀ (i : Int32) (f0 : Nat → Int32) (H : Heap) (locs : List Loc) (ls : Array Slot), i = nI k - 1 → va_P (dC, dI) vwCl [(a0, .inr (6, [.ref a1, .ref a2, .ref a3, .ref a4, .ref a5, .int (-1), .int 0])), (a1, .inr (0, [.ref ya, .int (nI j)])), (ya, .inl (cA, 1200, .inl f0))] H → va_D A [(a0, .inr (6, [.ref a1, .ref a2, .ref a3, .ref a4, .ref a5, .int (-1), .int 0])), (a1, .inr (0, [.ref ya, .int (nI j)])), (ya, .inl (cA, 1200, .inl f0))] → va_S A s.heap H locs → lv_has ls 5 [(4, .int i), (0, .ref a0), (1, .long ww), (3, .int k0)] → W p l e ({ frames := 1, cells := 0, slots := 0, locals := 21 } : Room) s m args below meth c H locs 0 0 Q (F0 m 37 ls []) := by
  intro k
  induction k with
  | zero =>
    intro j hj i f0 H locs ls ei hP hD hS hl
    have ej : j = n := by omega
    subst ej
    have en : i < 0 := by rw [ei]; decide
    refine lv_iload hx hb dX6_feed_37 (lv_at hl 0 rfl) ?_
    refine lv_if_lt (tgt := 68) hx hb dX6_feed_39 (by decide) (fun c_39 => ?_) (fun c_39 => absurd (en) c_39)
    exact hexit _ _ _ _ hP hD hS (lv_sub hl [1, 2, 3] rfl)
  | succ k ih =>
    intro j hj i f0 H locs ls ei hP hD hS hl
    have ei' : i = nI k := by rw [ei]; exact nI_pred k
    have en : ¬ i < 0 := by rw [ei']; exact nI_pos (by omega)
    have g1 : j < 1200 := by omega
    refine lv_iload hx hb dX6_feed_37 (lv_at hl 0 rfl) ?_
    refine lv_if_lt (tgt := 68) hx hb dX6_feed_39 (by decide) (fun c_39 => absurd c_39 (en)) (fun c_39 => ?_)
    refine lv_aload_n hx hb dX6_feed_42 rfl (lv_at hl 1 rfl) ?_
    refine va_get (D := (dC, dI)) (ci := 6) (v := .ref a1) (C := RX6) (T := TX6) (N := 7) hx hb hts inAll_6 hown hK hP 0 rfl rfl 0 (by decide) (hts (.fieldLink RX6 14 "LoopEnvelopes" "text" "LLoopEnvelopes$Bytes;") k_60) (fun _ h9 => h9) rfl dX6_feed_43 ?_
    refine lv_lload_n hx hb dX6_feed_46 rfl (lv_at hl 2 rfl) ?_
    refine lv_bipush (v := 8) hx hb dX6_feed_47 (by decide) ?_
    refine lv_iload hx hb dX6_feed_49 (lv_at hl 0 rfl) ?_
    refine lv_imul hx hb dX6_feed_51 ?_
    refine lv_lushr hx hb dX6_feed_52 rfl ?_
    refine lv_ldc2 hx hb hown (hts (.constantLong RX6 62 (255)) k_146) dX6_feed_53 ?_
    refine lv_land hx hb dX6_feed_56 ?_
    refine lv_topl (fun w1 ew1 => ?_)
    refine lv_l2i hx hb dX6_feed_57 rfl ?_
    refine lv_topi (fun b2 eb2 => ?_)
    have hPc := hP.sub (ws' := [(a1, .inr (0, [.ref ya, .int (nI j)])), (ya, .inl (cA, 1200, .inl f0))]) [1, 2] rfl
    have hDc := hD.sub (ws' := [(a1, .inr (0, [.ref ya, .int (nI j)])), (ya, .inl (cA, 1200, .inl f0))]) [1, 2] (by decide) rfl
    have hKc := hK.sub (tys' := [(cA, .byte)]) [0] rfl
    have hFc := va_free (wc := [(a1, .inr (0, [.ref ya, .int (nI j)])), (ya, .inl (cA, 1200, .inl f0))]) hD hS hA [1, 2] rfl
    refine va_calli (va_runV (As := [.int b2]) (rest := []) ⟨hx, hb, hml, hown, hts⟩ (c_X0_append l dC dI H.size a1 ya cA f0 j b2 (g1)) (cwV 1 hts gg_RX6_64 rfl rfl rfl (by decide +kernel) ⟨Nat.le_of_ble_eq_true rfl, Nat.le_of_ble_eq_true rfl⟩) ⟨fun a U g mk q => by obtain ⟨q0, q1, qP, qK, qD⟩ := q; exact ⟨q0, q1, qP, va_K.moved (u := U) (U := U.calling g mk a) (Vm.Alike.refl U.vm) qK, qD⟩, va_recv hK hP (ci := 0) (q0 := 1) rfl rfl, fun U hU hW => ⟨rfl, by rw [hU], by rw [hU]; exact hPc, va_K.moved hW.alike hKc, hDc.weaken (fun _ _ _ _ => trivial)⟩⟩ rfl rfl hl.1 rfl (lv_room (Nat.le_of_ble_eq_true rfl)) dX6_feed_58 ⟨Nat.le_of_ble_eq_true rfl, Nat.le_of_ble_eq_true rfl⟩) hS (fun q _ h => hFc q h) hFc (fun r3 u t H1 locs ht hvm hw hB hz1 hk1 hS => ?_)
    obtain ⟨fz4, hP1, hK1, hD1⟩ := hB
    rw [ht] at hP1
    have hK1 := va_K.moved hvm.symm hK1
    obtain ⟨hP, hD⟩ := va_join (wr := [(a0, .inr (6, [.ref a1, .ref a2, .ref a3, .ref a4, .ref a5, .int (-1), .int 0]))]) (w1 := [(a1, .inr (0, [.ref ya, .int (nI (j + 1))])), (ya, .inl (cA, 1200, .inl fz4))]) hP hD [1, 2] [0] rfl rfl (by decide) (by decide) hk1 hFc hP1 hD1
    have hK := (hK.sub (tys' := []) [] rfl).app hK1
    generalize H1 = H at hP hS ⊢
    have hP : va_P (dC, dI) vwCl [(a0, .inr (6, [.ref a1, .ref a2, .ref a3, .ref a4, .ref a5, .int (-1), .int 0])), (a1, .inr (0, [.ref ya, .int (nI (j + 1))])), (ya, .inl (cA, 1200, .inl fz4))] H := hP
    have hD : va_D A [(a0, .inr (6, [.ref a1, .ref a2, .ref a3, .ref a4, .ref a5, .int (-1), .int 0])), (a1, .inr (0, [.ref ya, .int (nI (j + 1))])), (ya, .inl (cA, 1200, .inl fz4))] := hD
    have hK : va_K (dC, dI) vwCl [(cA, .byte)] s := hK
    have hw : r3 = 1 := hw
    subst hw
    refine lv_pop hx hb dX6_feed_61 rfl ?_
    refine lv_iinc (v := (nI k - 1)) (lv' := [(4, .int (nI k - 1)), (0, .ref a0), (1, .long ww), (3, .int k0)]) hx hb dX6_feed_62 hl (k := 0) rfl (by rw [ei']; exact pf_dec (nI k)) (by decide) rfl (fun ls hl => ?_)
    refine lv_goto (tgt := 37) hx hb dX6_feed_65 (by decide) ?_
    exact ih (j + 1) (by omega) _ _ _ _ _ rfl hP hD hS (lv_sub hl [0, 1, 2, 3] rfl)

set_option maxHeartbeats 4000000 in
set_option maxRecDepth 100000 in
theorem c_X6_feed (l : Launch) (dC : Nat → ClassId) (dI : Nat → Nat → Nat) (sz : Nat) (a0 : Nat) (a1 : Nat) (a2 : Nat) (a3 : Nat) (a4 : Nat) (a5 : Nat) (ya : Nat) (cA : ClassId) (f0 : (Nat → Int32)) (ww : Int64) (k0 : Int32) : Met l yX6_feed pwX6_feed ({ frames := 1, cells := 0, slots := 0, locals := 21 } : Room) (va_Pc [.ref a0, .long ww, .int k0] (fun U => U.heap.size = sz ∧ va_P (dC, dI) vwCl [(a0, .inr (6, [.ref a1, .ref a2, .ref a3, .ref a4, .ref a5, .int (-1), .int 0])), (a1, .inr (0, [.ref ya, .int 0])), (ya, .inl (cA, 1200, .inl f0))] U.heap ∧ va_K (dC, dI) vwCl [(cA, .byte)] U ∧ va_D (fun _ => True) [(a0, .inr (6, [.ref a1, .ref a2, .ref a3, .ref a4, .ref a5, .int (-1), .int 0])), (a1, .inr (0, [.ref ya, .int 0])), (ya, .inl (cA, 1200, .inl f0))])) (va_Qi (fun (r : Int32) (_ : Unit) => r = pf_feed k0) (fun (_ : Unit) (t : State) => va_P (dC, dI) vwCl [] t.heap ∧ va_K (dC, dI) vwCl [] t ∧ va_D (va_A [(a0, .inr (6, [.ref a1, .ref a2, .ref a3, .ref a4, .ref a5, .int (-1), .int 0])), (a1, .inr (0, [.ref ya, .int 0])), (ya, .inl (cA, 1200, .inl f0))] sz) []) (va_A [(a0, .inr (6, [.ref a1, .ref a2, .ref a3, .ref a4, .ref a5, .int (-1), .int 0])), (a1, .inr (0, [.ref ya, .int 0])), (ya, .inl (cA, 1200, .inl f0))] sz)) 0 0 (va_A [(a0, .inr (6, [.ref a1, .ref a2, .ref a3, .ref a4, .ref a5, .int (-1), .int 0])), (a1, .inr (0, [.ref ya, .int 0])), (ya, .inl (cA, 1200, .inl f0))] sz) := by
  refine Met.ofW (cc := cX6_feed) (maxL := 5) (ret := (some .int)) (by decide) rfl ?_
  intro p e s m args below meth c s₁ B hml hv
  obtain ⟨rfl, hsz, hP, hK, hD0⟩ := hv
  have hx := B.exec
  have hb := B.bytes
  have hr := B.returns
  have hts0 := atoms_spec (ws := pwX6_feed) B.pre
  have hts := fun w (h : w ∈ pwAll) => hts0 w (List.mem_cons_of_mem _ h)
  have hown : s.vm.findClass RX6 = some m.cls := findClass_of_methodNamed B.named
  have hlocks := B.notSynchronized
  subst hsz
  have hD := hD0.self (sz := s.heap.size)
  generalize hAe : va_A [(a0, .inr (6, [.ref a1, .ref a2, .ref a3, .ref a4, .ref a5, .int (-1), .int 0])), (a1, .inr (0, [.ref ya, .int 0])), (ya, .inl (cA, 1200, .inl f0))] s.heap.size = A at hD ⊢
  have hA : ∀ q : Nat, s.heap.size ≤ q → A q := fun q h => by rw [← hAe]; exact Or.inr h
  have hS : va_S A s.heap s.heap [] := va_S.rf
  have hP : va_P (dC, dI) vwCl [(a0, .inr (6, [.ref a1, .ref a2, .ref a3, .ref a4, .ref a5, .int (-1), .int 0])), (a1, .inr (0, [.ref ya, .int 0])), (ya, .inl (cA, 1200, .inl f0))] s.heap := hP
  have hl := lv_entry ([.ref a0, .long ww, .int k0]) (n := 5) (Nat.le_of_ble_eq_true rfl)
  rw [lg_entry_eq]
  generalize (lg_sl ([.ref a0, .long ww, .int k0]) ++ List.replicate (5 - (lg_sl ([.ref a0, .long ww, .int k0])).length) Slot.unset).toArray = ls at hl ⊢
  have hl : lv_has ls 5 [(0, .ref a0), (1, .long ww), (3, .int k0)] := hl
  refine lv_iload_n hx hb dX6_feed_0 rfl (lv_at hl 2 rfl) ?_
  refine lv_iconst (v := 1) hx hb dX6_feed_1 (by decide) ?_
  refine lv_icmp_lt (tgt := 11) hx hb dX6_feed_2 (by decide) (fun c_2 => ?_) (fun c_2 => ?_)
  · skip
    refine lv_bipush (v := (-3)) hx hb dX6_feed_11 (by decide) ?_
    have hP9 := hP.sub (ws' := []) [] rfl
    have hD9 := hD.sub (ws' := []) [] (by decide) rfl
    have hK9 := hK.sub (tys' := []) [] rfl
    exact W.iret (v := (-3)) hx hb hr (fun t ht hW => ⟨⟨(-3), (), rfl, by unfold pf_feed; rw [if_pos c_2], by rw [ht]; exact hP9, va_K.moved hW.alike hK9, hD9⟩, hS.F ht⟩) hS.2.2 dX6_feed_13
  · skip
    refine lv_iload_n hx hb dX6_feed_5 rfl (lv_at hl 2 rfl) ?_
    refine lv_bipush (v := 8) hx hb dX6_feed_6 (by decide) ?_
    refine lv_icmp_le (tgt := 14) hx hb dX6_feed_8 (by decide) (fun c_8 => ?_) (fun c_8 => ?_)
    · skip
      refine lv_aload_n hx hb dX6_feed_14 rfl (lv_at hl 0 rfl) ?_
      refine va_get (D := (dC, dI)) (ci := 6) (v := .ref a1) (C := RX6) (T := TX6) (N := 7) hx hb hts inAll_6 hown hK hP 0 rfl rfl 0 (by decide) (hts (.fieldLink RX6 14 "LoopEnvelopes" "text" "LLoopEnvelopes$Bytes;") k_60) (fun _ h9 => h9) rfl dX6_feed_15 ?_
      have hPc := hP.sub (ws' := [(a1, .inr (0, [.ref ya, .int 0]))]) [1] rfl
      have hDc := hD.sub (ws' := [(a1, .inr (0, [.ref ya, .int 0]))]) [1] (by decide) rfl
      have hKc := hK.sub (tys' := []) [] rfl
      have hFc := va_free (wc := [(a1, .inr (0, [.ref ya, .int 0]))]) hD hS hA [1] rfl
      refine va_calli (va_runV (As := []) (rest := []) ⟨hx, hb, hml, hown, hts⟩ (c_X0_length l dC dI s.heap.size a1 ya 0) (cwV 0 hts gg_RX6_58 rfl rfl rfl (by decide +kernel) ⟨Nat.le_of_ble_eq_true rfl, Nat.le_of_ble_eq_true rfl⟩) ⟨fun a U g mk q => by obtain ⟨q0, q1, qP, qK, qD⟩ := q; exact ⟨q0, q1, qP, va_K.moved (u := U) (U := U.calling g mk a) (Vm.Alike.refl U.vm) qK, qD⟩, va_recv hK hP (ci := 0) (q0 := 1) rfl rfl, fun U hU hW => ⟨rfl, by rw [hU], by rw [hU]; exact hPc, va_K.moved hW.alike hKc, hDc.weaken (fun _ _ _ _ => trivial)⟩⟩ rfl rfl hl.1 rfl (lv_room (Nat.le_of_ble_eq_true rfl)) dX6_feed_18 ⟨Nat.le_of_ble_eq_true rfl, Nat.le_of_ble_eq_true rfl⟩) hS (fun q _ h => hFc q h) hFc (fun r1 u t H1 locs ht hvm hw hB hz1 hk1 hS => ?_)
      obtain ⟨hP1, hK1, hD1⟩ := hB
      rw [ht] at hP1
      have hK1 := va_K.moved hvm.symm hK1
      obtain ⟨hP, hD⟩ := va_join (wr := [(a0, .inr (6, [.ref a1, .ref a2, .ref a3, .ref a4, .ref a5, .int (-1), .int 0])), (ya, .inl (cA, 1200, .inl f0))]) (w1 := [(a1, .inr (0, [.ref ya, .int 0]))]) hP hD [1] [0, 2] rfl rfl (by decide) (by decide) hk1 hFc hP1 hD1
      have hK := (hK.sub (tys' := [(cA, .byte)]) [0] rfl).app hK1
      generalize H1 = H at hP hS ⊢
      have hP : va_P (dC, dI) vwCl [(a0, .inr (6, [.ref a1, .ref a2, .ref a3, .ref a4, .ref a5, .int (-1), .int 0])), (ya, .inl (cA, 1200, .inl f0)), (a1, .inr (0, [.ref ya, .int 0]))] H := hP
      have hD : va_D A [(a0, .inr (6, [.ref a1, .ref a2, .ref a3, .ref a4, .ref a5, .int (-1), .int 0])), (ya, .inl (cA, 1200, .inl f0)), (a1, .inr (0, [.ref ya, .int 0]))] := hD
      have hK : va_K (dC, dI) vwCl [(cA, .byte)] s := hK
      have hw : r1 = 0 := hw
      subst hw
      refine lv_iload_n hx hb dX6_feed_21 rfl (lv_at hl 2 rfl) ?_
      refine lv_iadd hx hb dX6_feed_22 ?_
      refine pf_top (y := k0) (Int32.zero_add k0) ?_
      refine lv_sipush (v := 1200) hx hb dX6_feed_23 (by decide) ?_
      refine lv_icmp_le (tgt := 32) hx hb dX6_feed_26 (by decide) (fun c_26 => ?_) (fun c_26 => absurd (pf_le1200 c_8) c_26)
      refine lv_iload_n hx hb dX6_feed_32 rfl (lv_at hl 2 rfl) ?_
      refine lv_iconst (v := 1) hx hb dX6_feed_33 (by decide) ?_
      refine lv_isub hx hb dX6_feed_34 ?_
      refine lv_istore (lv' := [(4, .int (k0 - 1)), (0, .ref a0), (1, .long ww), (3, .int k0)]) hx hb dX6_feed_35 hl (by decide) rfl (fun ls hl => ?_)
      obtain ⟨n, hn, ek⟩ := pf_small c_2 c_8
      have hP := hP.sub (ws' := [(a0, .inr (6, [.ref a1, .ref a2, .ref a3, .ref a4, .ref a5, .int (-1), .int 0])), (a1, .inr (0, [.ref ya, .int 0])), (ya, .inl (cA, 1200, .inl f0))]) [0, 2, 1] rfl
      have hD := hD.sub (ws' := [(a0, .inr (6, [.ref a1, .ref a2, .ref a3, .ref a4, .ref a5, .int (-1), .int 0])), (a1, .inr (0, [.ref ya, .int 0])), (ya, .inl (cA, 1200, .inl f0))]) [0, 2, 1] (by decide) rfl
      refine xf_loop (n := n) (l := l) (dC := dC) (dI := dI) (A := A) (cA := cA) hn hx hb hml hts hown hK hA (fun f0 H locs ls hP hD hS hl => ?_) n 0 (Nat.zero_add n) (k0 - 1) f0 _ _ _ (by rw [ek]) hP hD hS (lv_sub hl [0, 1, 2, 3] rfl)
      refine lv_aload_n hx hb dX6_feed_68 rfl (lv_at hl 0 rfl) ?_
      refine va_get (D := (dC, dI)) (ci := 6) (v := .ref a1) (C := RX6) (T := TX6) (N := 7) hx hb hts inAll_6 hown hK hP 0 rfl rfl 0 (by decide) (hts (.fieldLink RX6 14 "LoopEnvelopes" "text" "LLoopEnvelopes$Bytes;") k_60) (fun _ h9 => h9) rfl dX6_feed_69 ?_
      have hPc := hP.sub (ws' := [(a1, .inr (0, [.ref ya, .int (nI n)]))]) [1] rfl
      have hDc := hD.sub (ws' := [(a1, .inr (0, [.ref ya, .int (nI n)]))]) [1] (by decide) rfl
      have hKc := hK.sub (tys' := []) [] rfl
      have hFc := va_free (wc := [(a1, .inr (0, [.ref ya, .int (nI n)]))]) hD hS hA [1] rfl
      refine va_calli (va_runV (As := []) (rest := []) ⟨hx, hb, hml, hown, hts⟩ (c_X0_length l dC dI H.size a1 ya (nI n)) (cwV 0 hts gg_RX6_58 rfl rfl rfl (by decide +kernel) ⟨Nat.le_of_ble_eq_true rfl, Nat.le_of_ble_eq_true rfl⟩) ⟨fun a U g mk q => by obtain ⟨q0, q1, qP, qK, qD⟩ := q; exact ⟨q0, q1, qP, va_K.moved (u := U) (U := U.calling g mk a) (Vm.Alike.refl U.vm) qK, qD⟩, va_recv hK hP (ci := 0) (q0 := 1) rfl rfl, fun U hU hW => ⟨rfl, by rw [hU], by rw [hU]; exact hPc, va_K.moved hW.alike hKc, hDc.weaken (fun _ _ _ _ => trivial)⟩⟩ rfl rfl hl.1 rfl (lv_room (Nat.le_of_ble_eq_true rfl)) dX6_feed_72 ⟨Nat.le_of_ble_eq_true rfl, Nat.le_of_ble_eq_true rfl⟩) hS (fun q _ h => hFc q h) hFc (fun r2 u t H1 locs ht hvm hw hB hz1 hk1 hS => ?_)
      obtain ⟨hP1, hK1, hD1⟩ := hB
      rw [ht] at hP1
      have hK1 := va_K.moved hvm.symm hK1
      obtain ⟨hP, hD⟩ := va_join (wr := [(a0, .inr (6, [.ref a1, .ref a2, .ref a3, .ref a4, .ref a5, .int (-1), .int 0])), (ya, .inl (cA, 1200, .inl f0))]) (w1 := [(a1, .inr (0, [.ref ya, .int (nI n)]))]) hP hD [1] [0, 2] rfl rfl (by decide) (by decide) hk1 hFc hP1 hD1
      have hK := (hK.sub (tys' := [(cA, .byte)]) [0] rfl).app hK1
      generalize H1 = H at hP hS ⊢
      have hP : va_P (dC, dI) vwCl [(a0, .inr (6, [.ref a1, .ref a2, .ref a3, .ref a4, .ref a5, .int (-1), .int 0])), (ya, .inl (cA, 1200, .inl f0)), (a1, .inr (0, [.ref ya, .int (nI n)]))] H := hP
      have hD : va_D A [(a0, .inr (6, [.ref a1, .ref a2, .ref a3, .ref a4, .ref a5, .int (-1), .int 0])), (ya, .inl (cA, 1200, .inl f0)), (a1, .inr (0, [.ref ya, .int (nI n)]))] := hD
      have hK : va_K (dC, dI) vwCl [(cA, .byte)] s := hK
      have hw : r2 = (nI n) := hw
      subst hw
      have hP9 := hP.sub (ws' := []) [] rfl
      have hD9 := hD.sub (ws' := []) [] (by decide) rfl
      have hK9 := hK.sub (tys' := []) [] rfl
      exact W.iret (v := (nI n)) hx hb hr (fun t ht hW => ⟨⟨(nI n), (), rfl, by unfold pf_feed; rw [if_neg c_2, if_pos c_8, ek], by rw [ht]; exact hP9, va_K.moved hW.alike hK9, hD9⟩, hS.F ht⟩) hS.2.2 dX6_feed_75
    · skip
      refine lv_bipush (v := (-3)) hx hb dX6_feed_11 (by decide) ?_
      have hP9 := hP.sub (ws' := []) [] rfl
      have hD9 := hD.sub (ws' := []) [] (by decide) rfl
      have hK9 := hK.sub (tys' := []) [] rfl
      exact W.iret (v := (-3)) hx hb hr (fun t ht hW => ⟨⟨(-3), (), rfl, by unfold pf_feed; rw [if_neg c_2, if_neg c_8], by rw [ht]; exact hP9, va_K.moved hW.alike hK9, hD9⟩, hS.F ht⟩) hS.2.2 dX6_feed_13
