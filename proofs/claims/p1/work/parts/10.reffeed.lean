set_option maxHeartbeats 4000000 in
set_option maxRecDepth 100000 in
theorem mf_loop {p : Program} {l : Launch} {e : Env} {s : State} {m : MethodId} {args : Array Value} {below : List Frame} {meth : Method} {c : Code} {Q : State → Prop} {dC : Nat → ClassId} {dI : Nat → Nat → Nat} {A : Nat → Prop} {a0 m1 m2 m3 m4 m5 m6 m7 m8 m9 m10 m11 m12 m13 m14 m15 m16 : Nat} {cI : ClassId} {ww : Int64} {k0 : Int32} {n : Nat} (hn : n ≤ 8) (hx : p.tables.exec = Jvm.exec) (hb : c.code = cX7_feed) (hml : c.maxLocals = 5) (hts : ∀ w ∈ pwAll, w.before args s = true) (hown : s.vm.findClass RX7 = some m.cls) (hK : va_K (dC, dI) vwCl [(cI, .int)] s) (hA : ∀ q : Nat, s.heap.size ≤ q → A q)
    (hexit : ∀ (f0 : Nat → Int32) (H : Heap) (locs : List Loc) (ls : Array Slot), va_P (dC, dI) vwCl [(a0, .inr (7, [.int (nI n), .ref m1, .int 0, .int (-1), .int 0, .int 0, .int 0, .ref m2, .int 0, .int 0, .ref m3, .ref m4, .ref m5, .ref m6, .ref m7, .ref m8, .ref m9, .int 0, .ref m10, .ref m11, .ref m12, .int 0, .ref m13, .ref m14, .ref m15, .int 0, .ref m16, .int 0, .int 0])), (m1, .inl (cI, 1200, .inl f0))] H → va_D A [(a0, .inr (7, [.int (nI n), .ref m1, .int 0, .int (-1), .int 0, .int 0, .int 0, .ref m2, .int 0, .int 0, .ref m3, .ref m4, .ref m5, .ref m6, .ref m7, .ref m8, .ref m9, .int 0, .ref m10, .ref m11, .ref m12, .int 0, .ref m13, .ref m14, .ref m15, .int 0, .ref m16, .int 0, .int 0])), (m1, .inl (cI, 1200, .inl f0))] → va_S A s.heap H locs → lv_has ls 5 [(0, .ref a0), (1, .long ww), (3, .int k0)] → W p l e ({ frames := 1, cells := 0, slots := 0, locals := 22 } : Room) s m args below meth c H locs 0 0 Q (F0 m 75 ls [])) :
    ∀ (k j : Nat), j + k = n → ∀ (i : Int32) (f0 : Nat → Int32) (H : Heap) (locs : List Loc) (ls : Array Slot), i = nI k - 1 → va_P (dC, dI) vwCl [(a0, .inr (7, [.int (nI j), .ref m1, .int 0, .int (-1), .int 0, .int 0, .int 0, .ref m2, .int 0, .int 0, .ref m3, .ref m4, .ref m5, .ref m6, .ref m7, .ref m8, .ref m9, .int 0, .ref m10, .ref m11, .ref m12, .int 0, .ref m13, .ref m14, .ref m15, .int 0, .ref m16, .int 0, .int 0])), (m1, .inl (cI, 1200, .inl f0))] H → va_D A [(a0, .inr (7, [.int (nI j), .ref m1, .int 0, .int (-1), .int 0, .int 0, .int 0, .ref m2, .int 0, .int 0, .ref m3, .ref m4, .ref m5, .ref m6, .ref m7, .ref m8, .ref m9, .int 0, .ref m10, .ref m11, .ref m12, .int 0, .ref m13, .ref m14, .ref m15, .int 0, .ref m16, .int 0, .int 0])), (m1, .inl (cI, 1200, .inl f0))] → va_S A s.heap H locs → lv_has ls 5 [(4, .int i), (0, .ref a0), (1, .long ww), (3, .int k0)] → W p l e ({ frames := 1, cells := 0, slots := 0, locals := 22 } : Room) s m args below meth c H locs 0 0 Q (F0 m 33 ls []) := by
  intro k
  induction k with
  | zero =>
    intro j hj i f0 H locs ls ei hP hD hS hl
    have ej : j = n := by omega
    subst ej
    have en : i < 0 := by rw [ei]; decide
    refine lv_iload hx hb dX7_feed_33 (lv_at hl 0 rfl) ?_
    refine lv_if_lt (tgt := 75) hx hb dX7_feed_35 (by decide) (fun c_35 => ?_) (fun c_35 => absurd (en) c_35)
    exact hexit _ _ _ _ hP hD hS (lv_sub hl [1, 2, 3] rfl)
  | succ k ih =>
    intro j hj i f0 H locs ls ei hP hD hS hl
    have ei' : i = nI k := by rw [ei]; exact nI_pred k
    have en : ¬ i < 0 := by rw [ei']; exact nI_pos (by omega)
    have g1 : j < 1200 := by omega
    refine lv_iload hx hb dX7_feed_33 (lv_at hl 0 rfl) ?_
    refine lv_if_lt (tgt := 75) hx hb dX7_feed_35 (by decide) (fun c_35 => absurd c_35 (en)) (fun c_35 => ?_)
    refine lv_aload_n hx hb dX7_feed_38 rfl (lv_at hl 1 rfl) ?_
    refine va_get (D := (dC, dI)) (ci := 7) (v := .ref m1) (C := RX7) (T := TX7) (N := 29) hx hb hts inAll_7 hown hK hP 0 rfl rfl 1 (by decide) (hts (.fieldLink RX7 7 "LoopEnvelopesModel" "text" "[I") k_152) (fun _ h9 => h9) rfl dX7_feed_39 ?_
    refine lv_aload_n hx hb dX7_feed_42 rfl (lv_at hl 1 rfl) ?_
    refine va_get (D := (dC, dI)) (ci := 7) (v := .int (nI j)) (C := RX7) (T := TX7) (N := 29) hx hb hts inAll_7 hown hK hP 0 rfl rfl 0 (by decide) (hts (.fieldLink RX7 67 "LoopEnvelopesModel" "size" "I") k_171) (fun _ h9 => h9) rfl dX7_feed_43 ?_
    refine lv_lload_n hx hb dX7_feed_46 rfl (lv_at hl 2 rfl) ?_
    refine lv_bipush (v := 8) hx hb dX7_feed_47 (by decide) ?_
    refine lv_iload hx hb dX7_feed_49 (lv_at hl 0 rfl) ?_
    refine lv_imul hx hb dX7_feed_51 ?_
    refine lv_lshr hx hb dX7_feed_52 rfl ?_
    refine lv_ldc2 hx hb hown (hts (.constantLong RX7 70 (255)) k_185) dX7_feed_53 ?_
    refine lv_land hx hb dX7_feed_56 ?_
    refine lv_topl (fun w1 ew1 => ?_)
    refine lv_l2i hx hb dX7_feed_57 rfl ?_
    refine lv_topi (fun b2 eb2 => ?_)
    refine va_iast hx hb hK hP hD hS 1 0 rfl rfl (vp_in_nI g1 (by decide)) dX7_feed_58 (fun H locs hP hD hS => ?_)
    have hP : va_P (dC, dI) vwCl [(a0, .inr (7, [.int (nI j), .ref m1, .int 0, .int (-1), .int 0, .int 0, .int 0, .ref m2, .int 0, .int 0, .ref m3, .ref m4, .ref m5, .ref m6, .ref m7, .ref m8, .ref m9, .int 0, .ref m10, .ref m11, .ref m12, .int 0, .ref m13, .ref m14, .ref m15, .int 0, .ref m16, .int 0, .int 0])), (m1, .inl (cI, 1200, .inl (upd f0 (nI j).toNatClampNeg b2)))] H := hP
    have hD : va_D A [(a0, .inr (7, [.int (nI j), .ref m1, .int 0, .int (-1), .int 0, .int 0, .int 0, .ref m2, .int 0, .int 0, .ref m3, .ref m4, .ref m5, .ref m6, .ref m7, .ref m8, .ref m9, .int 0, .ref m10, .ref m11, .ref m12, .int 0, .ref m13, .ref m14, .ref m15, .int 0, .ref m16, .int 0, .int 0])), (m1, .inl (cI, 1200, .inl (upd f0 (nI j).toNatClampNeg b2)))] := hD
    refine lv_aload_n hx hb dX7_feed_59 rfl (lv_at hl 1 rfl) ?_
    refine lv_dup hx hb dX7_feed_60 rfl ?_
    refine va_get (D := (dC, dI)) (ci := 7) (v := .int (nI j)) (C := RX7) (T := TX7) (N := 29) hx hb hts inAll_7 hown hK hP 0 rfl rfl 0 (by decide) (hts (.fieldLink RX7 67 "LoopEnvelopesModel" "size" "I") k_171) (fun _ h9 => h9) rfl dX7_feed_61 ?_
    refine lv_iconst (v := 1) hx hb dX7_feed_64 (by decide) ?_
    refine lv_iadd hx hb dX7_feed_65 ?_
    refine pf_top (y := (nI (j + 1))) (nI_1 j) ?_
    refine va_put (D := (dC, dI)) (ci := 7) (v := .int (nI (j + 1))) (ty := .int) (C := RX7) (T := TX7) (N := 29) hx hb hts inAll_7 tyX7 tyX7_ok nmX7 hown hK hP hD hS 0 rfl rfl 0 (by decide) (hts (.fieldLink RX7 67 "LoopEnvelopesModel" "size" "I") k_171) (fun _ h9 => h9) rfl (by decide +kernel) rfl rfl (Nat.le_of_ble_eq_true rfl) dX7_feed_66 (fun H locs hP hD hS => ?_)
    have hP : va_P (dC, dI) vwCl [(a0, .inr (7, [.int (nI (j + 1)), .ref m1, .int 0, .int (-1), .int 0, .int 0, .int 0, .ref m2, .int 0, .int 0, .ref m3, .ref m4, .ref m5, .ref m6, .ref m7, .ref m8, .ref m9, .int 0, .ref m10, .ref m11, .ref m12, .int 0, .ref m13, .ref m14, .ref m15, .int 0, .ref m16, .int 0, .int 0])), (m1, .inl (cI, 1200, .inl (upd f0 (nI j).toNatClampNeg b2)))] H := hP
    have hD : va_D A [(a0, .inr (7, [.int (nI (j + 1)), .ref m1, .int 0, .int (-1), .int 0, .int 0, .int 0, .ref m2, .int 0, .int 0, .ref m3, .ref m4, .ref m5, .ref m6, .ref m7, .ref m8, .ref m9, .int 0, .ref m10, .ref m11, .ref m12, .int 0, .ref m13, .ref m14, .ref m15, .int 0, .ref m16, .int 0, .int 0])), (m1, .inl (cI, 1200, .inl (upd f0 (nI j).toNatClampNeg b2)))] := hD
    refine lv_iinc (v := (nI k - 1)) (lv' := [(4, .int (nI k - 1)), (0, .ref a0), (1, .long ww), (3, .int k0)]) hx hb dX7_feed_69 hl (k := 0) rfl (by rw [ei']; exact pf_dec (nI k)) (by decide) rfl (fun ls hl => ?_)
    refine lv_goto (tgt := 33) hx hb dX7_feed_72 (by decide) ?_
    exact ih (j + 1) (by omega) _ _ _ _ _ rfl hP hD hS (lv_sub hl [0, 1, 2, 3] rfl)

set_option maxHeartbeats 4000000 in
set_option maxRecDepth 100000 in
theorem c_X7_feed (l : Launch) (dC : Nat → ClassId) (dI : Nat → Nat → Nat) (sz : Nat) (a0 : Nat) (m1 : Nat) (m2 : Nat) (m3 : Nat) (m4 : Nat) (m5 : Nat) (m6 : Nat) (m7 : Nat) (m8 : Nat) (m9 : Nat) (m10 : Nat) (m11 : Nat) (m12 : Nat) (m13 : Nat) (m14 : Nat) (m15 : Nat) (m16 : Nat) (cI : ClassId) (f0 : (Nat → Int32)) (ww : Int64) (k0 : Int32) : Met l yX7_feed pwX7_feed ({ frames := 1, cells := 0, slots := 0, locals := 22 } : Room) (va_Pc [.ref a0, .long ww, .int k0] (fun U => U.heap.size = sz ∧ va_P (dC, dI) vwCl [(a0, .inr (7, [.int 0, .ref m1, .int 0, .int (-1), .int 0, .int 0, .int 0, .ref m2, .int 0, .int 0, .ref m3, .ref m4, .ref m5, .ref m6, .ref m7, .ref m8, .ref m9, .int 0, .ref m10, .ref m11, .ref m12, .int 0, .ref m13, .ref m14, .ref m15, .int 0, .ref m16, .int 0, .int 0])), (m1, .inl (cI, 1200, .inl f0))] U.heap ∧ va_K (dC, dI) vwCl [(cI, .int)] U ∧ va_D (fun _ => True) [(a0, .inr (7, [.int 0, .ref m1, .int 0, .int (-1), .int 0, .int 0, .int 0, .ref m2, .int 0, .int 0, .ref m3, .ref m4, .ref m5, .ref m6, .ref m7, .ref m8, .ref m9, .int 0, .ref m10, .ref m11, .ref m12, .int 0, .ref m13, .ref m14, .ref m15, .int 0, .ref m16, .int 0, .int 0])), (m1, .inl (cI, 1200, .inl f0))])) (va_Qi (fun (r : Int32) (_ : Unit) => r = pf_feed k0) (fun (_ : Unit) (t : State) => va_P (dC, dI) vwCl [] t.heap ∧ va_K (dC, dI) vwCl [] t ∧ va_D (va_A [(a0, .inr (7, [.int 0, .ref m1, .int 0, .int (-1), .int 0, .int 0, .int 0, .ref m2, .int 0, .int 0, .ref m3, .ref m4, .ref m5, .ref m6, .ref m7, .ref m8, .ref m9, .int 0, .ref m10, .ref m11, .ref m12, .int 0, .ref m13, .ref m14, .ref m15, .int 0, .ref m16, .int 0, .int 0])), (m1, .inl (cI, 1200, .inl f0))] sz) []) (va_A [(a0, .inr (7, [.int 0, .ref m1, .int 0, .int (-1), .int 0, .int 0, .int 0, .ref m2, .int 0, .int 0, .ref m3, .ref m4, .ref m5, .ref m6, .ref m7, .ref m8, .ref m9, .int 0, .ref m10, .ref m11, .ref m12, .int 0, .ref m13, .ref m14, .ref m15, .int 0, .ref m16, .int 0, .int 0])), (m1, .inl (cI, 1200, .inl f0))] sz)) 0 0 (va_A [(a0, .inr (7, [.int 0, .ref m1, .int 0, .int (-1), .int 0, .int 0, .int 0, .ref m2, .int 0, .int 0, .ref m3, .ref m4, .ref m5, .ref m6, .ref m7, .ref m8, .ref m9, .int 0, .ref m10, .ref m11, .ref m12, .int 0, .ref m13, .ref m14, .ref m15, .int 0, .ref m16, .int 0, .int 0])), (m1, .inl (cI, 1200, .inl f0))] sz) := by
  refine Met.ofW (cc := cX7_feed) (maxL := 5) (ret := (some .int)) (by decide) rfl ?_
  intro p e s m args below meth c s₁ B hml hv
  obtain ⟨rfl, hsz, hP, hK, hD0⟩ := hv
  have hx := B.exec
  have hb := B.bytes
  have hr := B.returns
  have hts0 := atoms_spec (ws := pwX7_feed) B.pre
  have hts := fun w (h : w ∈ pwAll) => hts0 w (List.mem_cons_of_mem _ h)
  have hown : s.vm.findClass RX7 = some m.cls := findClass_of_methodNamed B.named
  have hlocks := B.notSynchronized
  subst hsz
  have hD := hD0.self (sz := s.heap.size)
  generalize hAe : va_A [(a0, .inr (7, [.int 0, .ref m1, .int 0, .int (-1), .int 0, .int 0, .int 0, .ref m2, .int 0, .int 0, .ref m3, .ref m4, .ref m5, .ref m6, .ref m7, .ref m8, .ref m9, .int 0, .ref m10, .ref m11, .ref m12, .int 0, .ref m13, .ref m14, .ref m15, .int 0, .ref m16, .int 0, .int 0])), (m1, .inl (cI, 1200, .inl f0))] s.heap.size = A at hD ⊢
  have hA : ∀ q : Nat, s.heap.size ≤ q → A q := fun q h => by rw [← hAe]; exact Or.inr h
  have hS : va_S A s.heap s.heap [] := va_S.rf
  have hP : va_P (dC, dI) vwCl [(a0, .inr (7, [.int 0, .ref m1, .int 0, .int (-1), .int 0, .int 0, .int 0, .ref m2, .int 0, .int 0, .ref m3, .ref m4, .ref m5, .ref m6, .ref m7, .ref m8, .ref m9, .int 0, .ref m10, .ref m11, .ref m12, .int 0, .ref m13, .ref m14, .ref m15, .int 0, .ref m16, .int 0, .int 0])), (m1, .inl (cI, 1200, .inl f0))] s.heap := hP
  have hl := lv_entry ([.ref a0, .long ww, .int k0]) (n := 5) (Nat.le_of_ble_eq_true rfl)
  rw [lg_entry_eq]
  generalize (lg_sl ([.ref a0, .long ww, .int k0]) ++ List.replicate (5 - (lg_sl ([.ref a0, .long ww, .int k0])).length) Slot.unset).toArray = ls at hl ⊢
  have hl : lv_has ls 5 [(0, .ref a0), (1, .long ww), (3, .int k0)] := hl
  refine lv_iload_n hx hb dX7_feed_0 rfl (lv_at hl 2 rfl) ?_
  refine lv_iconst (v := 1) hx hb dX7_feed_1 (by decide) ?_
  refine lv_bipush (v := 8) hx hb dX7_feed_2 (by decide) ?_
  have hPc := hP.sub (ws' := []) [] rfl
  have hDc := hD.sub (ws' := []) [] (by decide) rfl
  have hKc := hK.sub (tys' := []) [] rfl
  have hFc := va_free (wc := []) hD hS hA [] rfl
  refine va_calli (va_runS (As := [.int k0, .int 1, .int 8]) (rest := []) ⟨hx, hb, hml, hown, hts⟩ (c_X7_in l dC dI s.heap.size k0 1 8) (va_cwS 3 hts gg_RX7_63 rfl rfl rfl (by decide +kernel) ⟨Nat.le_of_ble_eq_true rfl, Nat.le_of_ble_eq_true rfl⟩) ⟨fun a U g mk q => by obtain ⟨q0, q1, qP, qK, qD⟩ := q; exact ⟨q0, q1, qP, va_K.moved (u := U) (U := U.calling g mk a) (Vm.Alike.refl U.vm) qK, qD⟩, fun U hU hW => ⟨rfl, by rw [hU], by rw [hU]; exact hPc, va_K.moved hW.alike hKc, hDc.weaken (fun _ _ _ _ => trivial)⟩⟩ rfl rfl hl.1 rfl (lv_room (Nat.le_of_ble_eq_true rfl)) dX7_feed_4 ⟨Nat.le_of_ble_eq_true rfl, Nat.le_of_ble_eq_true rfl⟩) hS (fun q _ h => hFc q h) hFc (fun r1 u t H1 locs ht hvm hw hB hz1 hk1 hS => ?_)
  obtain ⟨hP1, hK1, hD1⟩ := hB
  rw [ht] at hP1
  have hK1 := va_K.moved hvm.symm hK1
  obtain ⟨hP, hD⟩ := va_join (wr := [(a0, .inr (7, [.int 0, .ref m1, .int 0, .int (-1), .int 0, .int 0, .int 0, .ref m2, .int 0, .int 0, .ref m3, .ref m4, .ref m5, .ref m6, .ref m7, .ref m8, .ref m9, .int 0, .ref m10, .ref m11, .ref m12, .int 0, .ref m13, .ref m14, .ref m15, .int 0, .ref m16, .int 0, .int 0])), (m1, .inl (cI, 1200, .inl f0))]) (w1 := []) hP hD [] [0, 1] rfl rfl (by decide) (by decide) hk1 hFc hP1 hD1
  have hK := (hK.sub (tys' := [(cI, .int)]) [0] rfl).app hK1
  generalize H1 = H at hP hS ⊢
  have hP : va_P (dC, dI) vwCl [(a0, .inr (7, [.int 0, .ref m1, .int 0, .int (-1), .int 0, .int 0, .int 0, .ref m2, .int 0, .int 0, .ref m3, .ref m4, .ref m5, .ref m6, .ref m7, .ref m8, .ref m9, .int 0, .ref m10, .ref m11, .ref m12, .int 0, .ref m13, .ref m14, .ref m15, .int 0, .ref m16, .int 0, .int 0])), (m1, .inl (cI, 1200, .inl f0))] H := hP
  have hD : va_D A [(a0, .inr (7, [.int 0, .ref m1, .int 0, .int (-1), .int 0, .int 0, .int 0, .ref m2, .int 0, .int 0, .ref m3, .ref m4, .ref m5, .ref m6, .ref m7, .ref m8, .ref m9, .int 0, .ref m10, .ref m11, .ref m12, .int 0, .ref m13, .ref m14, .ref m15, .int 0, .ref m16, .int 0, .int 0])), (m1, .inl (cI, 1200, .inl f0))] := hD
  have hK : va_K (dC, dI) vwCl [(cI, .int)] s := hK
  have hw : r1 = pf_in k0 1 8 := hw
  subst hw
  refine lv_if_ne (tgt := 13) hx hb dX7_feed_7 (by decide) (fun c_7 => ?_) (fun c_7 => ?_)
  · skip
    refine lv_aload_n hx hb dX7_feed_13 rfl (lv_at hl 0 rfl) ?_
    refine va_get (D := (dC, dI)) (ci := 7) (v := .int 0) (C := RX7) (T := TX7) (N := 29) hx hb hts inAll_7 hown hK hP 0 rfl rfl 0 (by decide) (hts (.fieldLink RX7 67 "LoopEnvelopesModel" "size" "I") k_171) (fun _ h9 => h9) rfl dX7_feed_14 ?_
    refine lv_iload_n hx hb dX7_feed_17 rfl (lv_at hl 2 rfl) ?_
    refine lv_iadd hx hb dX7_feed_18 ?_
    refine pf_top (y := k0) (Int32.zero_add k0) ?_
    refine lv_sipush (v := 1200) hx hb dX7_feed_19 (by decide) ?_
    refine lv_icmp_le (tgt := 28) hx hb dX7_feed_22 (by decide) (fun c_22 => ?_) (fun c_22 => absurd (pf_le1200b c_7) c_22)
    refine lv_iload_n hx hb dX7_feed_28 rfl (lv_at hl 2 rfl) ?_
    refine lv_iconst (v := 1) hx hb dX7_feed_29 (by decide) ?_
    refine lv_isub hx hb dX7_feed_30 ?_
    refine lv_istore (lv' := [(4, .int (k0 - 1)), (0, .ref a0), (1, .long ww), (3, .int k0)]) hx hb dX7_feed_31 hl (by decide) rfl (fun ls hl => ?_)
    obtain ⟨n, hn, ek⟩ := pf_small2 c_7
    have hP := hP.sub (ws' := [(a0, .inr (7, [.int 0, .ref m1, .int 0, .int (-1), .int 0, .int 0, .int 0, .ref m2, .int 0, .int 0, .ref m3, .ref m4, .ref m5, .ref m6, .ref m7, .ref m8, .ref m9, .int 0, .ref m10, .ref m11, .ref m12, .int 0, .ref m13, .ref m14, .ref m15, .int 0, .ref m16, .int 0, .int 0])), (m1, .inl (cI, 1200, .inl f0))]) [0, 1] rfl
    have hD := hD.sub (ws' := [(a0, .inr (7, [.int 0, .ref m1, .int 0, .int (-1), .int 0, .int 0, .int 0, .ref m2, .int 0, .int 0, .ref m3, .ref m4, .ref m5, .ref m6, .ref m7, .ref m8, .ref m9, .int 0, .ref m10, .ref m11, .ref m12, .int 0, .ref m13, .ref m14, .ref m15, .int 0, .ref m16, .int 0, .int 0])), (m1, .inl (cI, 1200, .inl f0))]) [0, 1] (by decide) rfl
    refine mf_loop (n := n) (l := l) (dC := dC) (dI := dI) (A := A) (cI := cI) hn hx hb hml hts hown hK hA (fun f0 H locs ls hP hD hS hl => ?_) n 0 (Nat.zero_add n) (k0 - 1) f0 _ _ _ (by rw [ek]) hP hD hS (lv_sub hl [0, 1, 2, 3] rfl)
    refine lv_aload_n hx hb dX7_feed_75 rfl (lv_at hl 0 rfl) ?_
    refine va_get (D := (dC, dI)) (ci := 7) (v := .int (nI n)) (C := RX7) (T := TX7) (N := 29) hx hb hts inAll_7 hown hK hP 0 rfl rfl 0 (by decide) (hts (.fieldLink RX7 67 "LoopEnvelopesModel" "size" "I") k_171) (fun _ h9 => h9) rfl dX7_feed_76 ?_
    have hP9 := hP.sub (ws' := []) [] rfl
    have hD9 := hD.sub (ws' := []) [] (by decide) rfl
    have hK9 := hK.sub (tys' := []) [] rfl
    exact W.iret (v := (nI n)) hx hb hr (fun t ht hW => ⟨⟨(nI n), (), rfl, by rw [pf_feed_in c_7, ek], by rw [ht]; exact hP9, va_K.moved hW.alike hK9, hD9⟩, hS.F ht⟩) hS.2.2 dX7_feed_79
  · skip
    refine lv_bipush (v := (-3)) hx hb dX7_feed_10 (by decide) ?_
    have hP9 := hP.sub (ws' := []) [] rfl
    have hD9 := hD.sub (ws' := []) [] (by decide) rfl
    have hK9 := hK.sub (tys' := []) [] rfl
    exact W.iret (v := (-3)) hx hb hr (fun t ht hW => ⟨⟨(-3), (), rfl, (pf_feed_out c_7).symm, by rw [ht]; exact hP9, va_K.moved hW.alike hK9, hD9⟩, hS.F ht⟩) hS.2.2 dX7_feed_12
