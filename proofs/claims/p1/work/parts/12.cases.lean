set_option maxHeartbeats 4000000 in
set_option maxRecDepth 100000 in
theorem law_feed {p : Program} {l : Launch} {e : Env} {s : State} {m : MethodId} {below : List Frame} {meth : Method} {c : Code} {b : Nat} {xs : Nat → Int32} (C0 : lw_At p s m meth c b 4 xs) {dC : Nat → ClassId} {dI : Nat → Nat → Nat} {q1 a13 a24 a35 a46 a57 ya8 b29 t110 t211 t312 yb13 h114 h215 h316 h417 b518 yc19 q22 m124 m225 m326 m427 m528 m629 m730 m831 m932 m1033 m1134 m1235 m1336 m1437 m1538 m1639 : Nat} {cA20 cI40 : ClassId} {f021 f041 : Nat → Int32} {H : Heap} {locs : List Loc} (hK : va_K (dC, dI) vwCl [(cA20, .byte), (cI40, .int)] s) (hP : va_P (dC, dI) vwCl [(q1, .inr (6, [.ref a13, .ref a24, .ref a35, .ref a46, .ref a57, .int (-1), .int 0])), (a13, .inr (0, [.ref ya8, .int 0])), (ya8, .inl (cA20, 1200, .inl f021)), (a24, .inr (3, [.ref b29, .ref t110, .ref t211, .ref t312, .int 0])), (b29, .inr (0, [.ref yb13, .int 0])), (a35, .inr (1, [.ref h114, .ref h215, .ref h316, .int 0, .int 0, .int 0])), (a57, .inr (5, [.ref h417, .ref b518, .int 0])), (b518, .inr (0, [.ref yc19, .int 0])), (q22, .inr (7, [.int 0, .ref m124, .int 0, .int (-1), .int 0, .int 0, .int 0, .ref m225, .int 0, .int 0, .ref m326, .ref m427, .ref m528, .ref m629, .ref m730, .ref m831, .ref m932, .int 0, .ref m1033, .ref m1134, .ref m1235, .int 0, .ref m1336, .ref m1437, .ref m1538, .int 0, .ref m1639, .int 0, .int 0])), (m124, .inl (cI40, 1200, .inl f041))] H) (hD : va_D (fun q : Nat => s.heap.size ≤ q) [(q1, .inr (6, [.ref a13, .ref a24, .ref a35, .ref a46, .ref a57, .int (-1), .int 0])), (a13, .inr (0, [.ref ya8, .int 0])), (ya8, .inl (cA20, 1200, .inl f021)), (a24, .inr (3, [.ref b29, .ref t110, .ref t211, .ref t312, .int 0])), (b29, .inr (0, [.ref yb13, .int 0])), (a35, .inr (1, [.ref h114, .ref h215, .ref h316, .int 0, .int 0, .int 0])), (a57, .inr (5, [.ref h417, .ref b518, .int 0])), (b518, .inr (0, [.ref yc19, .int 0])), (q22, .inr (7, [.int 0, .ref m124, .int 0, .int (-1), .int 0, .int 0, .int 0, .ref m225, .int 0, .int 0, .ref m326, .ref m427, .ref m528, .ref m629, .ref m730, .ref m831, .ref m932, .int 0, .ref m1033, .ref m1134, .ref m1235, .int 0, .ref m1336, .ref m1437, .ref m1538, .int 0, .ref m1639, .int 0, .int 0])), (m124, .inl (cI40, 1200, .inl f041))]) (hS : va_S (fun q : Nat => s.heap.size ≤ q) s.heap H locs) {ls : Array Slot} (hl : lv_has ls 4 [(3, .int 0), (2, .ref q22), (1, .ref q1), (0, .ref b)]) : W p l e room_1 s m #[Value.ref b] below meth c H locs 40 14459 (lw_Z below #[Value.ref b] s) (F0 m 112 ls []) := by
  obtain ⟨hx, hb, hr, hml, hown0, hts0, hX, hbl, hlocks, hgv⟩ := id C0
  have hown : s.vm.findClass RL = some m.cls := hown0
  have hts : ∀ w ∈ pwAll, w.before #[Value.ref b] s = true := fun w h => hts0 w (pwAll_in w h)
  have hA : ∀ q : Nat, s.heap.size ≤ q → (fun q : Nat => s.heap.size ≤ q) q := fun _ h => h
  have hbA : ¬ (fun q : Nat => s.heap.size ≤ q) b := Nat.not_le.mpr hbl
  refine lv_aload_n hx hb dL_law_112 rfl (lv_at hl 2 rfl) ?_
  refine lv_aload_n hx hb dL_law_113 rfl (lv_at hl 3 rfl) ?_
  refine lv_iload_n hx hb dL_law_114 rfl (lv_at hl 0 rfl) ?_
  refine lv_iconst (v := 1) hx hb dL_law_115 (by decide) ?_
  refine lv_iadd hx hb dL_law_116 ?_
  refine pf_top (y := 1) (by decide) ?_
  refine va_sld hx hb hX hbl hbA hS pf_i1 dL_law_117 ?_
  refine lv_i2l hx hb dL_law_118 rfl ?_
  refine lv_bipush (v := 32) hx hb dL_law_119 (by decide) ?_
  refine lv_lshl hx hb dL_law_121 rfl ?_
  refine lv_aload_n hx hb dL_law_122 rfl (lv_at hl 3 rfl) ?_
  refine lv_iload_n hx hb dL_law_123 rfl (lv_at hl 0 rfl) ?_
  refine lv_iconst (v := 2) hx hb dL_law_124 (by decide) ?_
  refine lv_iadd hx hb dL_law_125 ?_
  refine pf_top (y := 2) (by decide) ?_
  refine va_sld hx hb hX hbl hbA hS pf_i2 dL_law_126 ?_
  refine lv_i2l hx hb dL_law_127 rfl ?_
  refine lv_ldc2 hx hb hown (hts (.constantLong RL 13 (4294967295)) k_196) dL_law_128 ?_
  refine lv_land hx hb dL_law_131 ?_
  refine lv_topl (fun w1 ew1 => ?_)
  refine lv_lor hx hb dL_law_132 ?_
  refine lv_topl (fun w2 ew2 => ?_)
  refine lv_aload_n hx hb dL_law_133 rfl (lv_at hl 3 rfl) ?_
  refine lv_iload_n hx hb dL_law_134 rfl (lv_at hl 0 rfl) ?_
  refine lv_iconst (v := 3) hx hb dL_law_135 (by decide) ?_
  refine lv_iadd hx hb dL_law_136 ?_
  refine pf_top (y := 3) (by decide) ?_
  refine va_sld hx hb hX hbl hbA hS pf_i3 dL_law_137 ?_
  have hPc := hP.sub (ws' := [(q1, .inr (6, [.ref a13, .ref a24, .ref a35, .ref a46, .ref a57, .int (-1), .int 0])), (a13, .inr (0, [.ref ya8, .int 0])), (ya8, .inl (cA20, 1200, .inl f021))]) [0, 1, 2] rfl
  have hDc := hD.sub (ws' := [(q1, .inr (6, [.ref a13, .ref a24, .ref a35, .ref a46, .ref a57, .int (-1), .int 0])), (a13, .inr (0, [.ref ya8, .int 0])), (ya8, .inl (cA20, 1200, .inl f021))]) [0, 1, 2] (by decide) rfl
  have hKc := hK.sub (tys' := [(cA20, .byte)]) [0] rfl
  have hFc := va_free (wc := [(q1, .inr (6, [.ref a13, .ref a24, .ref a35, .ref a46, .ref a57, .int (-1), .int 0])), (a13, .inr (0, [.ref ya8, .int 0])), (ya8, .inl (cA20, 1200, .inl f021))]) hD hS hA [0, 1, 2] rfl
  refine va_calli (va_runV (As := [.long w2, .int (xs (3 : Int32).toNatClampNeg)]) (rest := []) ⟨hx, hb, hml, hown, hts⟩ (c_X6_feed l dC dI H.size q1 a13 a24 a35 a46 a57 ya8 cA20 f021 w2 (xs (3 : Int32).toNatClampNeg)) (cwV 2 hts gg_RL_15 rfl rfl rfl (by decide +kernel) ⟨Nat.le_of_ble_eq_true rfl, Nat.le_of_ble_eq_true rfl⟩) ⟨fun a U g mk q => by obtain ⟨q0, q1, qP, qK, qD⟩ := q; exact ⟨q0, q1, qP, va_K.moved (u := U) (U := U.calling g mk a) (Vm.Alike.refl U.vm) qK, qD⟩, va_recv hK hP (ci := 6) (q0 := 0) rfl rfl, fun U hU hW => ⟨rfl, by rw [hU], by rw [hU]; exact hPc, va_K.moved hW.alike hKc, hDc.weaken (fun _ _ _ _ => trivial)⟩⟩ rfl rfl hl.1 rfl (lv_room (Nat.le_of_ble_eq_true rfl)) dL_law_138 ⟨Nat.le_of_ble_eq_true rfl, Nat.le_of_ble_eq_true rfl⟩) hS (fun q _ h => hFc q h) hFc (fun r3 u t H1 locs ht hvm hw hB hz1 hk1 hS => ?_)
  obtain ⟨hP1, hK1, hD1⟩ := hB
  rw [ht] at hP1
  have hK1 := va_K.moved hvm.symm hK1
  obtain ⟨hP, hD⟩ := va_join (wr := [(a24, .inr (3, [.ref b29, .ref t110, .ref t211, .ref t312, .int 0])), (b29, .inr (0, [.ref yb13, .int 0])), (a35, .inr (1, [.ref h114, .ref h215, .ref h316, .int 0, .int 0, .int 0])), (a57, .inr (5, [.ref h417, .ref b518, .int 0])), (b518, .inr (0, [.ref yc19, .int 0])), (q22, .inr (7, [.int 0, .ref m124, .int 0, .int (-1), .int 0, .int 0, .int 0, .ref m225, .int 0, .int 0, .ref m326, .ref m427, .ref m528, .ref m629, .ref m730, .ref m831, .ref m932, .int 0, .ref m1033, .ref m1134, .ref m1235, .int 0, .ref m1336, .ref m1437, .ref m1538, .int 0, .ref m1639, .int 0, .int 0])), (m124, .inl (cI40, 1200, .inl f041))]) (w1 := []) hP hD [0, 1, 2] [3, 4, 5, 6, 7, 8, 9] rfl rfl (by decide) (by decide) hk1 hFc hP1 hD1
  have hK := (hK.sub (tys' := [(cI40, .int)]) [1] rfl).app hK1
  generalize H1 = H at hP hS ⊢
  have hP : va_P (dC, dI) vwCl [(a24, .inr (3, [.ref b29, .ref t110, .ref t211, .ref t312, .int 0])), (b29, .inr (0, [.ref yb13, .int 0])), (a35, .inr (1, [.ref h114, .ref h215, .ref h316, .int 0, .int 0, .int 0])), (a57, .inr (5, [.ref h417, .ref b518, .int 0])), (b518, .inr (0, [.ref yc19, .int 0])), (q22, .inr (7, [.int 0, .ref m124, .int 0, .int (-1), .int 0, .int 0, .int 0, .ref m225, .int 0, .int 0, .ref m326, .ref m427, .ref m528, .ref m629, .ref m730, .ref m831, .ref m932, .int 0, .ref m1033, .ref m1134, .ref m1235, .int 0, .ref m1336, .ref m1437, .ref m1538, .int 0, .ref m1639, .int 0, .int 0])), (m124, .inl (cI40, 1200, .inl f041))] H := hP
  have hD : va_D (fun q : Nat => s.heap.size ≤ q) [(a24, .inr (3, [.ref b29, .ref t110, .ref t211, .ref t312, .int 0])), (b29, .inr (0, [.ref yb13, .int 0])), (a35, .inr (1, [.ref h114, .ref h215, .ref h316, .int 0, .int 0, .int 0])), (a57, .inr (5, [.ref h417, .ref b518, .int 0])), (b518, .inr (0, [.ref yc19, .int 0])), (q22, .inr (7, [.int 0, .ref m124, .int 0, .int (-1), .int 0, .int 0, .int 0, .ref m225, .int 0, .int 0, .ref m326, .ref m427, .ref m528, .ref m629, .ref m730, .ref m831, .ref m932, .int 0, .ref m1033, .ref m1134, .ref m1235, .int 0, .ref m1336, .ref m1437, .ref m1538, .int 0, .ref m1639, .int 0, .int 0])), (m124, .inl (cI40, 1200, .inl f041))] := hD
  have hK : va_K (dC, dI) vwCl [(cI40, .int)] s := hK
  have hw : r3 = pf_feed (xs (3 : Int32).toNatClampNeg) := hw
  subst hw
  refine lv_aload_n hx hb dL_law_141 rfl (lv_at hl 1 rfl) ?_
  refine lv_aload_n hx hb dL_law_142 rfl (lv_at hl 3 rfl) ?_
  refine lv_iload_n hx hb dL_law_143 rfl (lv_at hl 0 rfl) ?_
  refine lv_iconst (v := 1) hx hb dL_law_144 (by decide) ?_
  refine lv_iadd hx hb dL_law_145 ?_
  refine pf_top (y := 1) (by decide) ?_
  refine va_sld hx hb hX hbl hbA hS pf_i1 dL_law_146 ?_
  refine lv_i2l hx hb dL_law_147 rfl ?_
  refine lv_bipush (v := 32) hx hb dL_law_148 (by decide) ?_
  refine lv_lshl hx hb dL_law_150 rfl ?_
  refine lv_aload_n hx hb dL_law_151 rfl (lv_at hl 3 rfl) ?_
  refine lv_iload_n hx hb dL_law_152 rfl (lv_at hl 0 rfl) ?_
  refine lv_iconst (v := 2) hx hb dL_law_153 (by decide) ?_
  refine lv_iadd hx hb dL_law_154 ?_
  refine pf_top (y := 2) (by decide) ?_
  refine va_sld hx hb hX hbl hbA hS pf_i2 dL_law_155 ?_
  refine lv_i2l hx hb dL_law_156 rfl ?_
  refine lv_ldc2 hx hb hown (hts (.constantLong RL 13 (4294967295)) k_196) dL_law_157 ?_
  refine lv_land hx hb dL_law_160 ?_
  refine lv_topl (fun w4 ew4 => ?_)
  refine lv_lor hx hb dL_law_161 ?_
  refine lv_topl (fun w5 ew5 => ?_)
  refine lv_aload_n hx hb dL_law_162 rfl (lv_at hl 3 rfl) ?_
  refine lv_iload_n hx hb dL_law_163 rfl (lv_at hl 0 rfl) ?_
  refine lv_iconst (v := 3) hx hb dL_law_164 (by decide) ?_
  refine lv_iadd hx hb dL_law_165 ?_
  refine pf_top (y := 3) (by decide) ?_
  refine va_sld hx hb hX hbl hbA hS pf_i3 dL_law_166 ?_
  have hPc := hP.sub (ws' := [(q22, .inr (7, [.int 0, .ref m124, .int 0, .int (-1), .int 0, .int 0, .int 0, .ref m225, .int 0, .int 0, .ref m326, .ref m427, .ref m528, .ref m629, .ref m730, .ref m831, .ref m932, .int 0, .ref m1033, .ref m1134, .ref m1235, .int 0, .ref m1336, .ref m1437, .ref m1538, .int 0, .ref m1639, .int 0, .int 0])), (m124, .inl (cI40, 1200, .inl f041))]) [5, 6] rfl
  have hDc := hD.sub (ws' := [(q22, .inr (7, [.int 0, .ref m124, .int 0, .int (-1), .int 0, .int 0, .int 0, .ref m225, .int 0, .int 0, .ref m326, .ref m427, .ref m528, .ref m629, .ref m730, .ref m831, .ref m932, .int 0, .ref m1033, .ref m1134, .ref m1235, .int 0, .ref m1336, .ref m1437, .ref m1538, .int 0, .ref m1639, .int 0, .int 0])), (m124, .inl (cI40, 1200, .inl f041))]) [5, 6] (by decide) rfl
  have hKc := hK.sub (tys' := [(cI40, .int)]) [0] rfl
  have hFc := va_free (wc := [(q22, .inr (7, [.int 0, .ref m124, .int 0, .int (-1), .int 0, .int 0, .int 0, .ref m225, .int 0, .int 0, .ref m326, .ref m427, .ref m528, .ref m629, .ref m730, .ref m831, .ref m932, .int 0, .ref m1033, .ref m1134, .ref m1235, .int 0, .ref m1336, .ref m1437, .ref m1538, .int 0, .ref m1639, .int 0, .int 0])), (m124, .inl (cI40, 1200, .inl f041))]) hD hS hA [5, 6] rfl
  refine va_calli (va_runV (As := [.long w5, .int (xs (3 : Int32).toNatClampNeg)]) (rest := [.int (pf_feed (xs (3 : Int32).toNatClampNeg))]) ⟨hx, hb, hml, hown, hts⟩ (c_X7_feed l dC dI H.size q22 m124 m225 m326 m427 m528 m629 m730 m831 m932 m1033 m1134 m1235 m1336 m1437 m1538 m1639 cI40 f041 w5 (xs (3 : Int32).toNatClampNeg)) (cwV 2 hts gg_RL_19 rfl rfl rfl (by decide +kernel) ⟨Nat.le_of_ble_eq_true rfl, Nat.le_of_ble_eq_true rfl⟩) ⟨fun a U g mk q => by obtain ⟨q0, q1, qP, qK, qD⟩ := q; exact ⟨q0, q1, qP, va_K.moved (u := U) (U := U.calling g mk a) (Vm.Alike.refl U.vm) qK, qD⟩, va_recv hK hP (ci := 7) (q0 := 5) rfl rfl, fun U hU hW => ⟨rfl, by rw [hU], by rw [hU]; exact hPc, va_K.moved hW.alike hKc, hDc.weaken (fun _ _ _ _ => trivial)⟩⟩ rfl rfl hl.1 rfl (lv_room (Nat.le_of_ble_eq_true rfl)) dL_law_167 ⟨Nat.le_of_ble_eq_true rfl, Nat.le_of_ble_eq_true rfl⟩) hS (fun q _ h => hFc q h) hFc (fun r6 u t H1 locs ht hvm hw hB hz1 hk1 hS => ?_)
  obtain ⟨hP1, hK1, hD1⟩ := hB
  rw [ht] at hP1
  have hK1 := va_K.moved hvm.symm hK1
  obtain ⟨hP, hD⟩ := va_join (wr := [(a24, .inr (3, [.ref b29, .ref t110, .ref t211, .ref t312, .int 0])), (b29, .inr (0, [.ref yb13, .int 0])), (a35, .inr (1, [.ref h114, .ref h215, .ref h316, .int 0, .int 0, .int 0])), (a57, .inr (5, [.ref h417, .ref b518, .int 0])), (b518, .inr (0, [.ref yc19, .int 0]))]) (w1 := []) hP hD [5, 6] [0, 1, 2, 3, 4] rfl rfl (by decide) (by decide) hk1 hFc hP1 hD1
  have hK := (hK.sub (tys' := []) [] rfl).app hK1
  generalize H1 = H at hP hS ⊢
  have hP : va_P (dC, dI) vwCl [(a24, .inr (3, [.ref b29, .ref t110, .ref t211, .ref t312, .int 0])), (b29, .inr (0, [.ref yb13, .int 0])), (a35, .inr (1, [.ref h114, .ref h215, .ref h316, .int 0, .int 0, .int 0])), (a57, .inr (5, [.ref h417, .ref b518, .int 0])), (b518, .inr (0, [.ref yc19, .int 0]))] H := hP
  have hD : va_D (fun q : Nat => s.heap.size ≤ q) [(a24, .inr (3, [.ref b29, .ref t110, .ref t211, .ref t312, .int 0])), (b29, .inr (0, [.ref yb13, .int 0])), (a35, .inr (1, [.ref h114, .ref h215, .ref h316, .int 0, .int 0, .int 0])), (a57, .inr (5, [.ref h417, .ref b518, .int 0])), (b518, .inr (0, [.ref yc19, .int 0]))] := hD
  have hK : va_K (dC, dI) vwCl [] s := hK
  have hw : r6 = pf_feed (xs (3 : Int32).toNatClampNeg) := hw
  subst hw
  refine lv_icmp_eq (tgt := 600) hx hb dL_law_170 (by decide) (fun c_170 => ?_) (fun c_170 => absurd (rfl) c_170)
  exact law_end C0 hS (lv_sub hl [3, 0] rfl)

set_option maxHeartbeats 4000000 in
set_option maxRecDepth 100000 in
theorem law_set {p : Program} {l : Launch} {e : Env} {s : State} {m : MethodId} {below : List Frame} {meth : Method} {c : Code} {b : Nat} {xs : Nat → Int32} (C0 : lw_At p s m meth c b 4 xs) {dC : Nat → ClassId} {dI : Nat → Nat → Nat} {q1 a13 a24 a35 a46 a57 ya8 b29 t110 t211 t312 yb13 h114 h215 h316 h417 b518 yc19 q22 m124 m225 m326 m427 m528 m629 m730 m831 m932 m1033 m1134 m1235 m1336 m1437 m1538 m1639 : Nat} {cA20 cI40 : ClassId} {f021 f041 : Nat → Int32} {H : Heap} {locs : List Loc} (hK : va_K (dC, dI) vwCl [(cA20, .byte), (cI40, .int)] s) (hP : va_P (dC, dI) vwCl [(q1, .inr (6, [.ref a13, .ref a24, .ref a35, .ref a46, .ref a57, .int (-1), .int 0])), (a13, .inr (0, [.ref ya8, .int 0])), (ya8, .inl (cA20, 1200, .inl f021)), (a24, .inr (3, [.ref b29, .ref t110, .ref t211, .ref t312, .int 0])), (b29, .inr (0, [.ref yb13, .int 0])), (a35, .inr (1, [.ref h114, .ref h215, .ref h316, .int 0, .int 0, .int 0])), (a57, .inr (5, [.ref h417, .ref b518, .int 0])), (b518, .inr (0, [.ref yc19, .int 0])), (q22, .inr (7, [.int 0, .ref m124, .int 0, .int (-1), .int 0, .int 0, .int 0, .ref m225, .int 0, .int 0, .ref m326, .ref m427, .ref m528, .ref m629, .ref m730, .ref m831, .ref m932, .int 0, .ref m1033, .ref m1134, .ref m1235, .int 0, .ref m1336, .ref m1437, .ref m1538, .int 0, .ref m1639, .int 0, .int 0])), (m124, .inl (cI40, 1200, .inl f041))] H) (hD : va_D (fun q : Nat => s.heap.size ≤ q) [(q1, .inr (6, [.ref a13, .ref a24, .ref a35, .ref a46, .ref a57, .int (-1), .int 0])), (a13, .inr (0, [.ref ya8, .int 0])), (ya8, .inl (cA20, 1200, .inl f021)), (a24, .inr (3, [.ref b29, .ref t110, .ref t211, .ref t312, .int 0])), (b29, .inr (0, [.ref yb13, .int 0])), (a35, .inr (1, [.ref h114, .ref h215, .ref h316, .int 0, .int 0, .int 0])), (a57, .inr (5, [.ref h417, .ref b518, .int 0])), (b518, .inr (0, [.ref yc19, .int 0])), (q22, .inr (7, [.int 0, .ref m124, .int 0, .int (-1), .int 0, .int 0, .int 0, .ref m225, .int 0, .int 0, .ref m326, .ref m427, .ref m528, .ref m629, .ref m730, .ref m831, .ref m932, .int 0, .ref m1033, .ref m1134, .ref m1235, .int 0, .ref m1336, .ref m1437, .ref m1538, .int 0, .ref m1639, .int 0, .int 0])), (m124, .inl (cI40, 1200, .inl f041))]) (hS : va_S (fun q : Nat => s.heap.size ≤ q) s.heap H locs) {ls : Array Slot} (hl : lv_has ls 4 [(3, .int 0), (2, .ref q22), (1, .ref q1), (0, .ref b)]) : W p l e room_1 s m #[Value.ref b] below meth c H locs 40 14459 (lw_Z below #[Value.ref b] s) (F0 m 175 ls []) := by
  obtain ⟨hx, hb, hr, hml, hown0, hts0, hX, hbl, hlocks, hgv⟩ := id C0
  have hown : s.vm.findClass RL = some m.cls := hown0
  have hts : ∀ w ∈ pwAll, w.before #[Value.ref b] s = true := fun w h => hts0 w (pwAll_in w h)
  have hA : ∀ q : Nat, s.heap.size ≤ q → (fun q : Nat => s.heap.size ≤ q) q := fun _ h => h
  have hbA : ¬ (fun q : Nat => s.heap.size ≤ q) b := Nat.not_le.mpr hbl
  refine lv_aload_n hx hb dL_law_175 rfl (lv_at hl 2 rfl) ?_
  refine lv_aload_n hx hb dL_law_176 rfl (lv_at hl 3 rfl) ?_
  refine lv_iload_n hx hb dL_law_177 rfl (lv_at hl 0 rfl) ?_
  refine lv_iconst (v := 1) hx hb dL_law_178 (by decide) ?_
  refine lv_iadd hx hb dL_law_179 ?_
  refine pf_top (y := 1) (by decide) ?_
  refine va_sld hx hb hX hbl hbA hS pf_i1 dL_law_180 ?_
  refine lv_aload_n hx hb dL_law_181 rfl (lv_at hl 3 rfl) ?_
  refine lv_iload_n hx hb dL_law_182 rfl (lv_at hl 0 rfl) ?_
  refine lv_iconst (v := 2) hx hb dL_law_183 (by decide) ?_
  refine lv_iadd hx hb dL_law_184 ?_
  refine pf_top (y := 2) (by decide) ?_
  refine va_sld hx hb hX hbl hbA hS pf_i2 dL_law_185 ?_
  have hPc := hP.sub (ws' := [(q1, .inr (6, [.ref a13, .ref a24, .ref a35, .ref a46, .ref a57, .int (-1), .int 0])), (a13, .inr (0, [.ref ya8, .int 0]))]) [0, 1] rfl
  have hDc := hD.sub (ws' := [(q1, .inr (6, [.ref a13, .ref a24, .ref a35, .ref a46, .ref a57, .int (-1), .int 0])), (a13, .inr (0, [.ref ya8, .int 0]))]) [0, 1] (by decide) rfl
  have hKc := hK.sub (tys' := []) [] rfl
  have hFc := va_free (wc := [(q1, .inr (6, [.ref a13, .ref a24, .ref a35, .ref a46, .ref a57, .int (-1), .int 0])), (a13, .inr (0, [.ref ya8, .int 0]))]) hD hS hA [0, 1] rfl
  refine va_calli (va_runV (As := [.int (xs (1 : Int32).toNatClampNeg), .int (xs (2 : Int32).toNatClampNeg)]) (rest := []) ⟨hx, hb, hml, hown, hts⟩ (c_X6_set l dC dI H.size q1 a13 a24 a35 a46 a57 ya8 (xs (1 : Int32).toNatClampNeg) (xs (2 : Int32).toNatClampNeg)) (cwV 2 hts gg_RL_20 rfl rfl rfl (by decide +kernel) ⟨Nat.le_of_ble_eq_true rfl, Nat.le_of_ble_eq_true rfl⟩) ⟨fun a U g mk q => by obtain ⟨q0, q1, qP, qK, qD⟩ := q; exact ⟨q0, q1, qP, va_K.moved (u := U) (U := U.calling g mk a) (Vm.Alike.refl U.vm) qK, qD⟩, va_recv hK hP (ci := 6) (q0 := 0) rfl rfl, fun U hU hW => ⟨rfl, by rw [hU], by rw [hU]; exact hPc, va_K.moved hW.alike hKc, hDc.weaken (fun _ _ _ _ => trivial)⟩⟩ rfl rfl hl.1 rfl (lv_room (Nat.le_of_ble_eq_true rfl)) dL_law_186 ⟨Nat.le_of_ble_eq_true rfl, Nat.le_of_ble_eq_true rfl⟩) hS (fun q _ h => hFc q h) hFc (fun r1 u t H1 locs ht hvm hw hB hz1 hk1 hS => ?_)
  obtain ⟨hP1, hK1, hD1⟩ := hB
  rw [ht] at hP1
  have hK1 := va_K.moved hvm.symm hK1
  obtain ⟨hP, hD⟩ := va_join (wr := [(ya8, .inl (cA20, 1200, .inl f021)), (a24, .inr (3, [.ref b29, .ref t110, .ref t211, .ref t312, .int 0])), (b29, .inr (0, [.ref yb13, .int 0])), (a35, .inr (1, [.ref h114, .ref h215, .ref h316, .int 0, .int 0, .int 0])), (a57, .inr (5, [.ref h417, .ref b518, .int 0])), (b518, .inr (0, [.ref yc19, .int 0])), (q22, .inr (7, [.int 0, .ref m124, .int 0, .int (-1), .int 0, .int 0, .int 0, .ref m225, .int 0, .int 0, .ref m326, .ref m427, .ref m528, .ref m629, .ref m730, .ref m831, .ref m932, .int 0, .ref m1033, .ref m1134, .ref m1235, .int 0, .ref m1336, .ref m1437, .ref m1538, .int 0, .ref m1639, .int 0, .int 0])), (m124, .inl (cI40, 1200, .inl f041))]) (w1 := []) hP hD [0, 1] [2, 3, 4, 5, 6, 7, 8, 9] rfl rfl (by decide) (by decide) hk1 hFc hP1 hD1
  have hK := (hK.sub (tys' := [(cA20, .byte), (cI40, .int)]) [0, 1] rfl).app hK1
  generalize H1 = H at hP hS ⊢
  have hP : va_P (dC, dI) vwCl [(ya8, .inl (cA20, 1200, .inl f021)), (a24, .inr (3, [.ref b29, .ref t110, .ref t211, .ref t312, .int 0])), (b29, .inr (0, [.ref yb13, .int 0])), (a35, .inr (1, [.ref h114, .ref h215, .ref h316, .int 0, .int 0, .int 0])), (a57, .inr (5, [.ref h417, .ref b518, .int 0])), (b518, .inr (0, [.ref yc19, .int 0])), (q22, .inr (7, [.int 0, .ref m124, .int 0, .int (-1), .int 0, .int 0, .int 0, .ref m225, .int 0, .int 0, .ref m326, .ref m427, .ref m528, .ref m629, .ref m730, .ref m831, .ref m932, .int 0, .ref m1033, .ref m1134, .ref m1235, .int 0, .ref m1336, .ref m1437, .ref m1538, .int 0, .ref m1639, .int 0, .int 0])), (m124, .inl (cI40, 1200, .inl f041))] H := hP
  have hD : va_D (fun q : Nat => s.heap.size ≤ q) [(ya8, .inl (cA20, 1200, .inl f021)), (a24, .inr (3, [.ref b29, .ref t110, .ref t211, .ref t312, .int 0])), (b29, .inr (0, [.ref yb13, .int 0])), (a35, .inr (1, [.ref h114, .ref h215, .ref h316, .int 0, .int 0, .int 0])), (a57, .inr (5, [.ref h417, .ref b518, .int 0])), (b518, .inr (0, [.ref yc19, .int 0])), (q22, .inr (7, [.int 0, .ref m124, .int 0, .int (-1), .int 0, .int 0, .int 0, .ref m225, .int 0, .int 0, .ref m326, .ref m427, .ref m528, .ref m629, .ref m730, .ref m831, .ref m932, .int 0, .ref m1033, .ref m1134, .ref m1235, .int 0, .ref m1336, .ref m1437, .ref m1538, .int 0, .ref m1639, .int 0, .int 0])), (m124, .inl (cI40, 1200, .inl f041))] := hD
  have hK : va_K (dC, dI) vwCl [(cA20, .byte), (cI40, .int)] s := hK
  have hw : r1 = (-2) := hw
  subst hw
  refine lv_aload_n hx hb dL_law_189 rfl (lv_at hl 1 rfl) ?_
  refine lv_aload_n hx hb dL_law_190 rfl (lv_at hl 3 rfl) ?_
  refine lv_iload_n hx hb dL_law_191 rfl (lv_at hl 0 rfl) ?_
  refine lv_iconst (v := 1) hx hb dL_law_192 (by decide) ?_
  refine lv_iadd hx hb dL_law_193 ?_
  refine pf_top (y := 1) (by decide) ?_
  refine va_sld hx hb hX hbl hbA hS pf_i1 dL_law_194 ?_
  refine lv_aload_n hx hb dL_law_195 rfl (lv_at hl 3 rfl) ?_
  refine lv_iload_n hx hb dL_law_196 rfl (lv_at hl 0 rfl) ?_
  refine lv_iconst (v := 2) hx hb dL_law_197 (by decide) ?_
  refine lv_iadd hx hb dL_law_198 ?_
  refine pf_top (y := 2) (by decide) ?_
  refine va_sld hx hb hX hbl hbA hS pf_i2 dL_law_199 ?_
  have hPc := hP.sub (ws' := [(q22, .inr (7, [.int 0, .ref m124, .int 0, .int (-1), .int 0, .int 0, .int 0, .ref m225, .int 0, .int 0, .ref m326, .ref m427, .ref m528, .ref m629, .ref m730, .ref m831, .ref m932, .int 0, .ref m1033, .ref m1134, .ref m1235, .int 0, .ref m1336, .ref m1437, .ref m1538, .int 0, .ref m1639, .int 0, .int 0]))]) [6] rfl
  have hDc := hD.sub (ws' := [(q22, .inr (7, [.int 0, .ref m124, .int 0, .int (-1), .int 0, .int 0, .int 0, .ref m225, .int 0, .int 0, .ref m326, .ref m427, .ref m528, .ref m629, .ref m730, .ref m831, .ref m932, .int 0, .ref m1033, .ref m1134, .ref m1235, .int 0, .ref m1336, .ref m1437, .ref m1538, .int 0, .ref m1639, .int 0, .int 0]))]) [6] (by decide) rfl
  have hKc := hK.sub (tys' := []) [] rfl
  have hFc := va_free (wc := [(q22, .inr (7, [.int 0, .ref m124, .int 0, .int (-1), .int 0, .int 0, .int 0, .ref m225, .int 0, .int 0, .ref m326, .ref m427, .ref m528, .ref m629, .ref m730, .ref m831, .ref m932, .int 0, .ref m1033, .ref m1134, .ref m1235, .int 0, .ref m1336, .ref m1437, .ref m1538, .int 0, .ref m1639, .int 0, .int 0]))]) hD hS hA [6] rfl
  refine va_calli (va_runV (As := [.int (xs (1 : Int32).toNatClampNeg), .int (xs (2 : Int32).toNatClampNeg)]) (rest := [.int (-2)]) ⟨hx, hb, hml, hown, hts⟩ (c_X7_set l dC dI H.size q22 m124 m225 m326 m427 m528 m629 m730 m831 m932 m1033 m1134 m1235 m1336 m1437 m1538 m1639 (xs (1 : Int32).toNatClampNeg) (xs (2 : Int32).toNatClampNeg)) (cwV 2 hts gg_RL_24 rfl rfl rfl (by decide +kernel) ⟨Nat.le_of_ble_eq_true rfl, Nat.le_of_ble_eq_true rfl⟩) ⟨fun a U g mk q => by obtain ⟨q0, q1, qP, qK, qD⟩ := q; exact ⟨q0, q1, qP, va_K.moved (u := U) (U := U.calling g mk a) (Vm.Alike.refl U.vm) qK, qD⟩, va_recv hK hP (ci := 7) (q0 := 6) rfl rfl, fun U hU hW => ⟨rfl, by rw [hU], by rw [hU]; exact hPc, va_K.moved hW.alike hKc, hDc.weaken (fun _ _ _ _ => trivial)⟩⟩ rfl rfl hl.1 rfl (lv_room (Nat.le_of_ble_eq_true rfl)) dL_law_200 ⟨Nat.le_of_ble_eq_true rfl, Nat.le_of_ble_eq_true rfl⟩) hS (fun q _ h => hFc q h) hFc (fun r2 u t H1 locs ht hvm hw hB hz1 hk1 hS => ?_)
  obtain ⟨hP1, hK1, hD1⟩ := hB
  rw [ht] at hP1
  have hK1 := va_K.moved hvm.symm hK1
  obtain ⟨hP, hD⟩ := va_join (wr := [(ya8, .inl (cA20, 1200, .inl f021)), (a24, .inr (3, [.ref b29, .ref t110, .ref t211, .ref t312, .int 0])), (b29, .inr (0, [.ref yb13, .int 0])), (a35, .inr (1, [.ref h114, .ref h215, .ref h316, .int 0, .int 0, .int 0])), (a57, .inr (5, [.ref h417, .ref b518, .int 0])), (b518, .inr (0, [.ref yc19, .int 0])), (m124, .inl (cI40, 1200, .inl f041))]) (w1 := []) hP hD [6] [0, 1, 2, 3, 4, 5, 7] rfl rfl (by decide) (by decide) hk1 hFc hP1 hD1
  have hK := (hK.sub (tys' := [(cA20, .byte), (cI40, .int)]) [0, 1] rfl).app hK1
  generalize H1 = H at hP hS ⊢
  have hP : va_P (dC, dI) vwCl [(ya8, .inl (cA20, 1200, .inl f021)), (a24, .inr (3, [.ref b29, .ref t110, .ref t211, .ref t312, .int 0])), (b29, .inr (0, [.ref yb13, .int 0])), (a35, .inr (1, [.ref h114, .ref h215, .ref h316, .int 0, .int 0, .int 0])), (a57, .inr (5, [.ref h417, .ref b518, .int 0])), (b518, .inr (0, [.ref yc19, .int 0])), (m124, .inl (cI40, 1200, .inl f041))] H := hP
  have hD : va_D (fun q : Nat => s.heap.size ≤ q) [(ya8, .inl (cA20, 1200, .inl f021)), (a24, .inr (3, [.ref b29, .ref t110, .ref t211, .ref t312, .int 0])), (b29, .inr (0, [.ref yb13, .int 0])), (a35, .inr (1, [.ref h114, .ref h215, .ref h316, .int 0, .int 0, .int 0])), (a57, .inr (5, [.ref h417, .ref b518, .int 0])), (b518, .inr (0, [.ref yc19, .int 0])), (m124, .inl (cI40, 1200, .inl f041))] := hD
  have hK : va_K (dC, dI) vwCl [(cA20, .byte), (cI40, .int)] s := hK
  have hw : r2 = (-2) := hw
  subst hw
  refine lv_icmp_eq (tgt := 600) hx hb dL_law_203 (by decide) (fun c_203 => ?_) (fun c_203 => absurd (rfl) c_203)
  exact law_end C0 hS (lv_sub hl [3, 0] rfl)

set_option maxHeartbeats 4000000 in
set_option maxRecDepth 100000 in
theorem law_cut {p : Program} {l : Launch} {e : Env} {s : State} {m : MethodId} {below : List Frame} {meth : Method} {c : Code} {b : Nat} {xs : Nat → Int32} (C0 : lw_At p s m meth c b 4 xs) {dC : Nat → ClassId} {dI : Nat → Nat → Nat} {q1 a13 a24 a35 a46 a57 ya8 b29 t110 t211 t312 yb13 h114 h215 h316 h417 b518 yc19 q22 m124 m225 m326 m427 m528 m629 m730 m831 m932 m1033 m1134 m1235 m1336 m1437 m1538 m1639 : Nat} {cA20 cI40 : ClassId} {f021 f041 : Nat → Int32} {H : Heap} {locs : List Loc} (hK : va_K (dC, dI) vwCl [(cA20, .byte), (cI40, .int)] s) (hP : va_P (dC, dI) vwCl [(q1, .inr (6, [.ref a13, .ref a24, .ref a35, .ref a46, .ref a57, .int (-1), .int 0])), (a13, .inr (0, [.ref ya8, .int 0])), (ya8, .inl (cA20, 1200, .inl f021)), (a24, .inr (3, [.ref b29, .ref t110, .ref t211, .ref t312, .int 0])), (b29, .inr (0, [.ref yb13, .int 0])), (a35, .inr (1, [.ref h114, .ref h215, .ref h316, .int 0, .int 0, .int 0])), (a57, .inr (5, [.ref h417, .ref b518, .int 0])), (b518, .inr (0, [.ref yc19, .int 0])), (q22, .inr (7, [.int 0, .ref m124, .int 0, .int (-1), .int 0, .int 0, .int 0, .ref m225, .int 0, .int 0, .ref m326, .ref m427, .ref m528, .ref m629, .ref m730, .ref m831, .ref m932, .int 0, .ref m1033, .ref m1134, .ref m1235, .int 0, .ref m1336, .ref m1437, .ref m1538, .int 0, .ref m1639, .int 0, .int 0])), (m124, .inl (cI40, 1200, .inl f041))] H) (hD : va_D (fun q : Nat => s.heap.size ≤ q) [(q1, .inr (6, [.ref a13, .ref a24, .ref a35, .ref a46, .ref a57, .int (-1), .int 0])), (a13, .inr (0, [.ref ya8, .int 0])), (ya8, .inl (cA20, 1200, .inl f021)), (a24, .inr (3, [.ref b29, .ref t110, .ref t211, .ref t312, .int 0])), (b29, .inr (0, [.ref yb13, .int 0])), (a35, .inr (1, [.ref h114, .ref h215, .ref h316, .int 0, .int 0, .int 0])), (a57, .inr (5, [.ref h417, .ref b518, .int 0])), (b518, .inr (0, [.ref yc19, .int 0])), (q22, .inr (7, [.int 0, .ref m124, .int 0, .int (-1), .int 0, .int 0, .int 0, .ref m225, .int 0, .int 0, .ref m326, .ref m427, .ref m528, .ref m629, .ref m730, .ref m831, .ref m932, .int 0, .ref m1033, .ref m1134, .ref m1235, .int 0, .ref m1336, .ref m1437, .ref m1538, .int 0, .ref m1639, .int 0, .int 0])), (m124, .inl (cI40, 1200, .inl f041))]) (hS : va_S (fun q : Nat => s.heap.size ≤ q) s.heap H locs) {ls : Array Slot} (hl : lv_has ls 4 [(3, .int 0), (2, .ref q22), (1, .ref q1), (0, .ref b)]) : W p l e room_1 s m #[Value.ref b] below meth c H locs 40 14459 (lw_Z below #[Value.ref b] s) (F0 m 208 ls []) := by
  obtain ⟨hx, hb, hr, hml, hown0, hts0, hX, hbl, hlocks, hgv⟩ := id C0
  have hown : s.vm.findClass RL = some m.cls := hown0
  have hts : ∀ w ∈ pwAll, w.before #[Value.ref b] s = true := fun w h => hts0 w (pwAll_in w h)
  have hA : ∀ q : Nat, s.heap.size ≤ q → (fun q : Nat => s.heap.size ≤ q) q := fun _ h => h
  have hbA : ¬ (fun q : Nat => s.heap.size ≤ q) b := Nat.not_le.mpr hbl
  refine lv_aload_n hx hb dL_law_208 rfl (lv_at hl 2 rfl) ?_
  refine lv_aload_n hx hb dL_law_209 rfl (lv_at hl 3 rfl) ?_
  refine lv_iload_n hx hb dL_law_210 rfl (lv_at hl 0 rfl) ?_
  refine lv_iconst (v := 1) hx hb dL_law_211 (by decide) ?_
  refine lv_iadd hx hb dL_law_212 ?_
  refine pf_top (y := 1) (by decide) ?_
  refine va_sld hx hb hX hbl hbA hS pf_i1 dL_law_213 ?_
  have hPc := hP.sub (ws' := [(q1, .inr (6, [.ref a13, .ref a24, .ref a35, .ref a46, .ref a57, .int (-1), .int 0])), (a13, .inr (0, [.ref ya8, .int 0]))]) [0, 1] rfl
  have hDc := hD.sub (ws' := [(q1, .inr (6, [.ref a13, .ref a24, .ref a35, .ref a46, .ref a57, .int (-1), .int 0])), (a13, .inr (0, [.ref ya8, .int 0]))]) [0, 1] (by decide) rfl
  have hKc := hK.sub (tys' := []) [] rfl
  have hFc := va_free (wc := [(q1, .inr (6, [.ref a13, .ref a24, .ref a35, .ref a46, .ref a57, .int (-1), .int 0])), (a13, .inr (0, [.ref ya8, .int 0]))]) hD hS hA [0, 1] rfl
  refine va_calli (va_runV (As := [.int (xs (1 : Int32).toNatClampNeg)]) (rest := []) ⟨hx, hb, hml, hown, hts⟩ (c_X6_cut l dC dI H.size q1 a13 a24 a35 a46 a57 ya8 (xs (1 : Int32).toNatClampNeg)) (cwV 1 hts gg_RL_25 rfl rfl rfl (by decide +kernel) ⟨Nat.le_of_ble_eq_true rfl, Nat.le_of_ble_eq_true rfl⟩) ⟨fun a U g mk q => by obtain ⟨q0, q1, qP, qK, qD⟩ := q; exact ⟨q0, q1, qP, va_K.moved (u := U) (U := U.calling g mk a) (Vm.Alike.refl U.vm) qK, qD⟩, va_recv hK hP (ci := 6) (q0 := 0) rfl rfl, fun U hU hW => ⟨rfl, by rw [hU], by rw [hU]; exact hPc, va_K.moved hW.alike hKc, hDc.weaken (fun _ _ _ _ => trivial)⟩⟩ rfl rfl hl.1 rfl (lv_room (Nat.le_of_ble_eq_true rfl)) dL_law_214 ⟨Nat.le_of_ble_eq_true rfl, Nat.le_of_ble_eq_true rfl⟩) hS (fun q _ h => hFc q h) hFc (fun r1 u t H1 locs ht hvm hw hB hz1 hk1 hS => ?_)
  obtain ⟨hP1, hK1, hD1⟩ := hB
  rw [ht] at hP1
  have hK1 := va_K.moved hvm.symm hK1
  obtain ⟨hP, hD⟩ := va_join (wr := [(ya8, .inl (cA20, 1200, .inl f021)), (a24, .inr (3, [.ref b29, .ref t110, .ref t211, .ref t312, .int 0])), (b29, .inr (0, [.ref yb13, .int 0])), (a35, .inr (1, [.ref h114, .ref h215, .ref h316, .int 0, .int 0, .int 0])), (a57, .inr (5, [.ref h417, .ref b518, .int 0])), (b518, .inr (0, [.ref yc19, .int 0])), (q22, .inr (7, [.int 0, .ref m124, .int 0, .int (-1), .int 0, .int 0, .int 0, .ref m225, .int 0, .int 0, .ref m326, .ref m427, .ref m528, .ref m629, .ref m730, .ref m831, .ref m932, .int 0, .ref m1033, .ref m1134, .ref m1235, .int 0, .ref m1336, .ref m1437, .ref m1538, .int 0, .ref m1639, .int 0, .int 0])), (m124, .inl (cI40, 1200, .inl f041))]) (w1 := []) hP hD [0, 1] [2, 3, 4, 5, 6, 7, 8, 9] rfl rfl (by decide) (by decide) hk1 hFc hP1 hD1
  have hK := (hK.sub (tys' := [(cA20, .byte), (cI40, .int)]) [0, 1] rfl).app hK1
  generalize H1 = H at hP hS ⊢
  have hP : va_P (dC, dI) vwCl [(ya8, .inl (cA20, 1200, .inl f021)), (a24, .inr (3, [.ref b29, .ref t110, .ref t211, .ref t312, .int 0])), (b29, .inr (0, [.ref yb13, .int 0])), (a35, .inr (1, [.ref h114, .ref h215, .ref h316, .int 0, .int 0, .int 0])), (a57, .inr (5, [.ref h417, .ref b518, .int 0])), (b518, .inr (0, [.ref yc19, .int 0])), (q22, .inr (7, [.int 0, .ref m124, .int 0, .int (-1), .int 0, .int 0, .int 0, .ref m225, .int 0, .int 0, .ref m326, .ref m427, .ref m528, .ref m629, .ref m730, .ref m831, .ref m932, .int 0, .ref m1033, .ref m1134, .ref m1235, .int 0, .ref m1336, .ref m1437, .ref m1538, .int 0, .ref m1639, .int 0, .int 0])), (m124, .inl (cI40, 1200, .inl f041))] H := hP
  have hD : va_D (fun q : Nat => s.heap.size ≤ q) [(ya8, .inl (cA20, 1200, .inl f021)), (a24, .inr (3, [.ref b29, .ref t110, .ref t211, .ref t312, .int 0])), (b29, .inr (0, [.ref yb13, .int 0])), (a35, .inr (1, [.ref h114, .ref h215, .ref h316, .int 0, .int 0, .int 0])), (a57, .inr (5, [.ref h417, .ref b518, .int 0])), (b518, .inr (0, [.ref yc19, .int 0])), (q22, .inr (7, [.int 0, .ref m124, .int 0, .int (-1), .int 0, .int 0, .int 0, .ref m225, .int 0, .int 0, .ref m326, .ref m427, .ref m528, .ref m629, .ref m730, .ref m831, .ref m932, .int 0, .ref m1033, .ref m1134, .ref m1235, .int 0, .ref m1336, .ref m1437, .ref m1538, .int 0, .ref m1639, .int 0, .int 0])), (m124, .inl (cI40, 1200, .inl f041))] := hD
  have hK : va_K (dC, dI) vwCl [(cA20, .byte), (cI40, .int)] s := hK
  have hw : r1 = pf_cut (xs (1 : Int32).toNatClampNeg) := hw
  subst hw
  refine lv_aload_n hx hb dL_law_217 rfl (lv_at hl 1 rfl) ?_
  refine lv_aload_n hx hb dL_law_218 rfl (lv_at hl 3 rfl) ?_
  refine lv_iload_n hx hb dL_law_219 rfl (lv_at hl 0 rfl) ?_
  refine lv_iconst (v := 1) hx hb dL_law_220 (by decide) ?_
  refine lv_iadd hx hb dL_law_221 ?_
  refine pf_top (y := 1) (by decide) ?_
  refine va_sld hx hb hX hbl hbA hS pf_i1 dL_law_222 ?_
  have hPc := hP.sub (ws' := [(q22, .inr (7, [.int 0, .ref m124, .int 0, .int (-1), .int 0, .int 0, .int 0, .ref m225, .int 0, .int 0, .ref m326, .ref m427, .ref m528, .ref m629, .ref m730, .ref m831, .ref m932, .int 0, .ref m1033, .ref m1134, .ref m1235, .int 0, .ref m1336, .ref m1437, .ref m1538, .int 0, .ref m1639, .int 0, .int 0]))]) [6] rfl
  have hDc := hD.sub (ws' := [(q22, .inr (7, [.int 0, .ref m124, .int 0, .int (-1), .int 0, .int 0, .int 0, .ref m225, .int 0, .int 0, .ref m326, .ref m427, .ref m528, .ref m629, .ref m730, .ref m831, .ref m932, .int 0, .ref m1033, .ref m1134, .ref m1235, .int 0, .ref m1336, .ref m1437, .ref m1538, .int 0, .ref m1639, .int 0, .int 0]))]) [6] (by decide) rfl
  have hKc := hK.sub (tys' := []) [] rfl
  have hFc := va_free (wc := [(q22, .inr (7, [.int 0, .ref m124, .int 0, .int (-1), .int 0, .int 0, .int 0, .ref m225, .int 0, .int 0, .ref m326, .ref m427, .ref m528, .ref m629, .ref m730, .ref m831, .ref m932, .int 0, .ref m1033, .ref m1134, .ref m1235, .int 0, .ref m1336, .ref m1437, .ref m1538, .int 0, .ref m1639, .int 0, .int 0]))]) hD hS hA [6] rfl
  refine va_calli (va_runV (As := [.int (xs (1 : Int32).toNatClampNeg)]) (rest := [.int (pf_cut (xs (1 : Int32).toNatClampNeg))]) ⟨hx, hb, hml, hown, hts⟩ (c_X7_cut l dC dI H.size q22 m124 m225 m326 m427 m528 m629 m730 m831 m932 m1033 m1134 m1235 m1336 m1437 m1538 m1639 (xs (1 : Int32).toNatClampNeg)) (cwV 1 hts gg_RL_29 rfl rfl rfl (by decide +kernel) ⟨Nat.le_of_ble_eq_true rfl, Nat.le_of_ble_eq_true rfl⟩) ⟨fun a U g mk q => by obtain ⟨q0, q1, qP, qK, qD⟩ := q; exact ⟨q0, q1, qP, va_K.moved (u := U) (U := U.calling g mk a) (Vm.Alike.refl U.vm) qK, qD⟩, va_recv hK hP (ci := 7) (q0 := 6) rfl rfl, fun U hU hW => ⟨rfl, by rw [hU], by rw [hU]; exact hPc, va_K.moved hW.alike hKc, hDc.weaken (fun _ _ _ _ => trivial)⟩⟩ rfl rfl hl.1 rfl (lv_room (Nat.le_of_ble_eq_true rfl)) dL_law_223 ⟨Nat.le_of_ble_eq_true rfl, Nat.le_of_ble_eq_true rfl⟩) hS (fun q _ h => hFc q h) hFc (fun r2 u t H1 locs ht hvm hw hB hz1 hk1 hS => ?_)
  obtain ⟨hP1, hK1, hD1⟩ := hB
  rw [ht] at hP1
  have hK1 := va_K.moved hvm.symm hK1
  obtain ⟨hP, hD⟩ := va_join (wr := [(ya8, .inl (cA20, 1200, .inl f021)), (a24, .inr (3, [.ref b29, .ref t110, .ref t211, .ref t312, .int 0])), (b29, .inr (0, [.ref yb13, .int 0])), (a35, .inr (1, [.ref h114, .ref h215, .ref h316, .int 0, .int 0, .int 0])), (a57, .inr (5, [.ref h417, .ref b518, .int 0])), (b518, .inr (0, [.ref yc19, .int 0])), (m124, .inl (cI40, 1200, .inl f041))]) (w1 := []) hP hD [6] [0, 1, 2, 3, 4, 5, 7] rfl rfl (by decide) (by decide) hk1 hFc hP1 hD1
  have hK := (hK.sub (tys' := [(cA20, .byte), (cI40, .int)]) [0, 1] rfl).app hK1
  generalize H1 = H at hP hS ⊢
  have hP : va_P (dC, dI) vwCl [(ya8, .inl (cA20, 1200, .inl f021)), (a24, .inr (3, [.ref b29, .ref t110, .ref t211, .ref t312, .int 0])), (b29, .inr (0, [.ref yb13, .int 0])), (a35, .inr (1, [.ref h114, .ref h215, .ref h316, .int 0, .int 0, .int 0])), (a57, .inr (5, [.ref h417, .ref b518, .int 0])), (b518, .inr (0, [.ref yc19, .int 0])), (m124, .inl (cI40, 1200, .inl f041))] H := hP
  have hD : va_D (fun q : Nat => s.heap.size ≤ q) [(ya8, .inl (cA20, 1200, .inl f021)), (a24, .inr (3, [.ref b29, .ref t110, .ref t211, .ref t312, .int 0])), (b29, .inr (0, [.ref yb13, .int 0])), (a35, .inr (1, [.ref h114, .ref h215, .ref h316, .int 0, .int 0, .int 0])), (a57, .inr (5, [.ref h417, .ref b518, .int 0])), (b518, .inr (0, [.ref yc19, .int 0])), (m124, .inl (cI40, 1200, .inl f041))] := hD
  have hK : va_K (dC, dI) vwCl [(cA20, .byte), (cI40, .int)] s := hK
  have hw : r2 = pf_cut (xs (1 : Int32).toNatClampNeg) := hw
  subst hw
  refine lv_icmp_eq (tgt := 600) hx hb dL_law_226 (by decide) (fun c_226 => ?_) (fun c_226 => absurd (rfl) c_226)
  exact law_end C0 hS (lv_sub hl [3, 0] rfl)

set_option maxHeartbeats 4000000 in
set_option maxRecDepth 100000 in
theorem law_read {p : Program} {l : Launch} {e : Env} {s : State} {m : MethodId} {below : List Frame} {meth : Method} {c : Code} {b : Nat} {xs : Nat → Int32} (C0 : lw_At p s m meth c b 4 xs) {dC : Nat → ClassId} {dI : Nat → Nat → Nat} {q1 a13 a24 a35 a46 a57 ya8 b29 t110 t211 t312 yb13 h114 h215 h316 h417 b518 yc19 q22 m124 m225 m326 m427 m528 m629 m730 m831 m932 m1033 m1134 m1235 m1336 m1437 m1538 m1639 : Nat} {cA20 cI40 : ClassId} {f021 f041 : Nat → Int32} {H : Heap} {locs : List Loc} (hK : va_K (dC, dI) vwCl [(cA20, .byte), (cI40, .int)] s) (hP : va_P (dC, dI) vwCl [(q1, .inr (6, [.ref a13, .ref a24, .ref a35, .ref a46, .ref a57, .int (-1), .int 0])), (a13, .inr (0, [.ref ya8, .int 0])), (ya8, .inl (cA20, 1200, .inl f021)), (a24, .inr (3, [.ref b29, .ref t110, .ref t211, .ref t312, .int 0])), (b29, .inr (0, [.ref yb13, .int 0])), (a35, .inr (1, [.ref h114, .ref h215, .ref h316, .int 0, .int 0, .int 0])), (a57, .inr (5, [.ref h417, .ref b518, .int 0])), (b518, .inr (0, [.ref yc19, .int 0])), (q22, .inr (7, [.int 0, .ref m124, .int 0, .int (-1), .int 0, .int 0, .int 0, .ref m225, .int 0, .int 0, .ref m326, .ref m427, .ref m528, .ref m629, .ref m730, .ref m831, .ref m932, .int 0, .ref m1033, .ref m1134, .ref m1235, .int 0, .ref m1336, .ref m1437, .ref m1538, .int 0, .ref m1639, .int 0, .int 0])), (m124, .inl (cI40, 1200, .inl f041))] H) (hD : va_D (fun q : Nat => s.heap.size ≤ q) [(q1, .inr (6, [.ref a13, .ref a24, .ref a35, .ref a46, .ref a57, .int (-1), .int 0])), (a13, .inr (0, [.ref ya8, .int 0])), (ya8, .inl (cA20, 1200, .inl f021)), (a24, .inr (3, [.ref b29, .ref t110, .ref t211, .ref t312, .int 0])), (b29, .inr (0, [.ref yb13, .int 0])), (a35, .inr (1, [.ref h114, .ref h215, .ref h316, .int 0, .int 0, .int 0])), (a57, .inr (5, [.ref h417, .ref b518, .int 0])), (b518, .inr (0, [.ref yc19, .int 0])), (q22, .inr (7, [.int 0, .ref m124, .int 0, .int (-1), .int 0, .int 0, .int 0, .ref m225, .int 0, .int 0, .ref m326, .ref m427, .ref m528, .ref m629, .ref m730, .ref m831, .ref m932, .int 0, .ref m1033, .ref m1134, .ref m1235, .int 0, .ref m1336, .ref m1437, .ref m1538, .int 0, .ref m1639, .int 0, .int 0])), (m124, .inl (cI40, 1200, .inl f041))]) (hS : va_S (fun q : Nat => s.heap.size ≤ q) s.heap H locs) {ls : Array Slot} (hl : lv_has ls 4 [(3, .int 0), (2, .ref q22), (1, .ref q1), (0, .ref b)]) : W p l e room_1 s m #[Value.ref b] below meth c H locs 40 14459 (lw_Z below #[Value.ref b] s) (F0 m 231 ls []) := by
  obtain ⟨hx, hb, hr, hml, hown0, hts0, hX, hbl, hlocks, hgv⟩ := id C0
  have hown : s.vm.findClass RL = some m.cls := hown0
  have hts : ∀ w ∈ pwAll, w.before #[Value.ref b] s = true := fun w h => hts0 w (pwAll_in w h)
  have hA : ∀ q : Nat, s.heap.size ≤ q → (fun q : Nat => s.heap.size ≤ q) q := fun _ h => h
  have hbA : ¬ (fun q : Nat => s.heap.size ≤ q) b := Nat.not_le.mpr hbl
  refine lv_aload_n hx hb dL_law_231 rfl (lv_at hl 2 rfl) ?_
  have hPc := hP.sub (ws' := [(q1, .inr (6, [.ref a13, .ref a24, .ref a35, .ref a46, .ref a57, .int (-1), .int 0])), (a13, .inr (0, [.ref ya8, .int 0])), (a24, .inr (3, [.ref b29, .ref t110, .ref t211, .ref t312, .int 0])), (b29, .inr (0, [.ref yb13, .int 0])), (a35, .inr (1, [.ref h114, .ref h215, .ref h316, .int 0, .int 0, .int 0]))]) [0, 1, 3, 4, 5] rfl
  have hDc := hD.sub (ws' := [(q1, .inr (6, [.ref a13, .ref a24, .ref a35, .ref a46, .ref a57, .int (-1), .int 0])), (a13, .inr (0, [.ref ya8, .int 0])), (a24, .inr (3, [.ref b29, .ref t110, .ref t211, .ref t312, .int 0])), (b29, .inr (0, [.ref yb13, .int 0])), (a35, .inr (1, [.ref h114, .ref h215, .ref h316, .int 0, .int 0, .int 0]))]) [0, 1, 3, 4, 5] (by decide) rfl
  have hKc := hK.sub (tys' := []) [] rfl
  have hFc := va_free (wc := [(q1, .inr (6, [.ref a13, .ref a24, .ref a35, .ref a46, .ref a57, .int (-1), .int 0])), (a13, .inr (0, [.ref ya8, .int 0])), (a24, .inr (3, [.ref b29, .ref t110, .ref t211, .ref t312, .int 0])), (b29, .inr (0, [.ref yb13, .int 0])), (a35, .inr (1, [.ref h114, .ref h215, .ref h316, .int 0, .int 0, .int 0]))]) hD hS hA [0, 1, 3, 4, 5] rfl
  refine va_calli (va_runV (As := []) (rest := []) ⟨hx, hb, hml, hown, hts⟩ (c_X6_read l dC dI H.size q1 a13 a24 a35 a46 a57 ya8 b29 t110 t211 t312 yb13 h114 h215 h316) (cwV 0 hts gg_RL_30 rfl rfl rfl (by decide +kernel) ⟨Nat.le_of_ble_eq_true rfl, Nat.le_of_ble_eq_true rfl⟩) ⟨fun a U g mk q => by obtain ⟨q0, q1, qP, qK, qD⟩ := q; exact ⟨q0, q1, qP, va_K.moved (u := U) (U := U.calling g mk a) (Vm.Alike.refl U.vm) qK, qD⟩, va_recv hK hP (ci := 6) (q0 := 0) rfl rfl, fun U hU hW => ⟨rfl, by rw [hU], by rw [hU]; exact hPc, va_K.moved hW.alike hKc, hDc.weaken (fun _ _ _ _ => trivial)⟩⟩ rfl rfl hl.1 rfl (lv_room (Nat.le_of_ble_eq_true rfl)) dL_law_232 ⟨Nat.le_of_ble_eq_true rfl, Nat.le_of_ble_eq_true rfl⟩) hS (fun q _ h => hFc q h) hFc (fun r1 u t H1 locs ht hvm hw hB hz1 hk1 hS => ?_)
  obtain ⟨hP1, hK1, hD1⟩ := hB
  rw [ht] at hP1
  have hK1 := va_K.moved hvm.symm hK1
  obtain ⟨hP, hD⟩ := va_join (wr := [(ya8, .inl (cA20, 1200, .inl f021)), (a57, .inr (5, [.ref h417, .ref b518, .int 0])), (b518, .inr (0, [.ref yc19, .int 0])), (q22, .inr (7, [.int 0, .ref m124, .int 0, .int (-1), .int 0, .int 0, .int 0, .ref m225, .int 0, .int 0, .ref m326, .ref m427, .ref m528, .ref m629, .ref m730, .ref m831, .ref m932, .int 0, .ref m1033, .ref m1134, .ref m1235, .int 0, .ref m1336, .ref m1437, .ref m1538, .int 0, .ref m1639, .int 0, .int 0])), (m124, .inl (cI40, 1200, .inl f041))]) (w1 := []) hP hD [0, 1, 3, 4, 5] [2, 6, 7, 8, 9] rfl rfl (by decide) (by decide) hk1 hFc hP1 hD1
  have hK := (hK.sub (tys' := [(cA20, .byte), (cI40, .int)]) [0, 1] rfl).app hK1
  generalize H1 = H at hP hS ⊢
  have hP : va_P (dC, dI) vwCl [(ya8, .inl (cA20, 1200, .inl f021)), (a57, .inr (5, [.ref h417, .ref b518, .int 0])), (b518, .inr (0, [.ref yc19, .int 0])), (q22, .inr (7, [.int 0, .ref m124, .int 0, .int (-1), .int 0, .int 0, .int 0, .ref m225, .int 0, .int 0, .ref m326, .ref m427, .ref m528, .ref m629, .ref m730, .ref m831, .ref m932, .int 0, .ref m1033, .ref m1134, .ref m1235, .int 0, .ref m1336, .ref m1437, .ref m1538, .int 0, .ref m1639, .int 0, .int 0])), (m124, .inl (cI40, 1200, .inl f041))] H := hP
  have hD : va_D (fun q : Nat => s.heap.size ≤ q) [(ya8, .inl (cA20, 1200, .inl f021)), (a57, .inr (5, [.ref h417, .ref b518, .int 0])), (b518, .inr (0, [.ref yc19, .int 0])), (q22, .inr (7, [.int 0, .ref m124, .int 0, .int (-1), .int 0, .int 0, .int 0, .ref m225, .int 0, .int 0, .ref m326, .ref m427, .ref m528, .ref m629, .ref m730, .ref m831, .ref m932, .int 0, .ref m1033, .ref m1134, .ref m1235, .int 0, .ref m1336, .ref m1437, .ref m1538, .int 0, .ref m1639, .int 0, .int 0])), (m124, .inl (cI40, 1200, .inl f041))] := hD
  have hK : va_K (dC, dI) vwCl [(cA20, .byte), (cI40, .int)] s := hK
  have hw : r1 = 1 := hw
  subst hw
  refine lv_aload_n hx hb dL_law_235 rfl (lv_at hl 1 rfl) ?_
  have hPc := hP.sub (ws' := [(q22, .inr (7, [.int 0, .ref m124, .int 0, .int (-1), .int 0, .int 0, .int 0, .ref m225, .int 0, .int 0, .ref m326, .ref m427, .ref m528, .ref m629, .ref m730, .ref m831, .ref m932, .int 0, .ref m1033, .ref m1134, .ref m1235, .int 0, .ref m1336, .ref m1437, .ref m1538, .int 0, .ref m1639, .int 0, .int 0]))]) [3] rfl
  have hDc := hD.sub (ws' := [(q22, .inr (7, [.int 0, .ref m124, .int 0, .int (-1), .int 0, .int 0, .int 0, .ref m225, .int 0, .int 0, .ref m326, .ref m427, .ref m528, .ref m629, .ref m730, .ref m831, .ref m932, .int 0, .ref m1033, .ref m1134, .ref m1235, .int 0, .ref m1336, .ref m1437, .ref m1538, .int 0, .ref m1639, .int 0, .int 0]))]) [3] (by decide) rfl
  have hKc := hK.sub (tys' := []) [] rfl
  have hFc := va_free (wc := [(q22, .inr (7, [.int 0, .ref m124, .int 0, .int (-1), .int 0, .int 0, .int 0, .ref m225, .int 0, .int 0, .ref m326, .ref m427, .ref m528, .ref m629, .ref m730, .ref m831, .ref m932, .int 0, .ref m1033, .ref m1134, .ref m1235, .int 0, .ref m1336, .ref m1437, .ref m1538, .int 0, .ref m1639, .int 0, .int 0]))]) hD hS hA [3] rfl
  refine va_calli (va_runV (As := []) (rest := [.int 1]) ⟨hx, hb, hml, hown, hts⟩ (c_X7_read l dC dI H.size q22 m124 m225 m326 m427 m528 m629 m730 m831 m932 m1033 m1134 m1235 m1336 m1437 m1538 m1639) (cwV 0 hts gg_RL_34 rfl rfl rfl (by decide +kernel) ⟨Nat.le_of_ble_eq_true rfl, Nat.le_of_ble_eq_true rfl⟩) ⟨fun a U g mk q => by obtain ⟨q0, q1, qP, qK, qD⟩ := q; exact ⟨q0, q1, qP, va_K.moved (u := U) (U := U.calling g mk a) (Vm.Alike.refl U.vm) qK, qD⟩, va_recv hK hP (ci := 7) (q0 := 3) rfl rfl, fun U hU hW => ⟨rfl, by rw [hU], by rw [hU]; exact hPc, va_K.moved hW.alike hKc, hDc.weaken (fun _ _ _ _ => trivial)⟩⟩ rfl rfl hl.1 rfl (lv_room (Nat.le_of_ble_eq_true rfl)) dL_law_236 ⟨Nat.le_of_ble_eq_true rfl, Nat.le_of_ble_eq_true rfl⟩) hS (fun q _ h => hFc q h) hFc (fun r2 u t H1 locs ht hvm hw hB hz1 hk1 hS => ?_)
  obtain ⟨hP1, hK1, hD1⟩ := hB
  rw [ht] at hP1
  have hK1 := va_K.moved hvm.symm hK1
  obtain ⟨hP, hD⟩ := va_join (wr := [(ya8, .inl (cA20, 1200, .inl f021)), (a57, .inr (5, [.ref h417, .ref b518, .int 0])), (b518, .inr (0, [.ref yc19, .int 0])), (m124, .inl (cI40, 1200, .inl f041))]) (w1 := []) hP hD [3] [0, 1, 2, 4] rfl rfl (by decide) (by decide) hk1 hFc hP1 hD1
  have hK := (hK.sub (tys' := [(cA20, .byte), (cI40, .int)]) [0, 1] rfl).app hK1
  generalize H1 = H at hP hS ⊢
  have hP : va_P (dC, dI) vwCl [(ya8, .inl (cA20, 1200, .inl f021)), (a57, .inr (5, [.ref h417, .ref b518, .int 0])), (b518, .inr (0, [.ref yc19, .int 0])), (m124, .inl (cI40, 1200, .inl f041))] H := hP
  have hD : va_D (fun q : Nat => s.heap.size ≤ q) [(ya8, .inl (cA20, 1200, .inl f021)), (a57, .inr (5, [.ref h417, .ref b518, .int 0])), (b518, .inr (0, [.ref yc19, .int 0])), (m124, .inl (cI40, 1200, .inl f041))] := hD
  have hK : va_K (dC, dI) vwCl [(cA20, .byte), (cI40, .int)] s := hK
  have hw : r2 = 1 := hw
  subst hw
  refine lv_icmp_eq (tgt := 600) hx hb dL_law_239 (by decide) (fun c_239 => ?_) (fun c_239 => absurd (rfl) c_239)
  exact law_end C0 hS (lv_sub hl [3, 0] rfl)

set_option maxHeartbeats 4000000 in
set_option maxRecDepth 100000 in
theorem law_where {p : Program} {l : Launch} {e : Env} {s : State} {m : MethodId} {below : List Frame} {meth : Method} {c : Code} {b : Nat} {xs : Nat → Int32} (C0 : lw_At p s m meth c b 4 xs) {dC : Nat → ClassId} {dI : Nat → Nat → Nat} {q1 a13 a24 a35 a46 a57 ya8 b29 t110 t211 t312 yb13 h114 h215 h316 h417 b518 yc19 q22 m124 m225 m326 m427 m528 m629 m730 m831 m932 m1033 m1134 m1235 m1336 m1437 m1538 m1639 : Nat} {cA20 cI40 : ClassId} {f021 f041 : Nat → Int32} {H : Heap} {locs : List Loc} (hK : va_K (dC, dI) vwCl [(cA20, .byte), (cI40, .int)] s) (hP : va_P (dC, dI) vwCl [(q1, .inr (6, [.ref a13, .ref a24, .ref a35, .ref a46, .ref a57, .int (-1), .int 0])), (a13, .inr (0, [.ref ya8, .int 0])), (ya8, .inl (cA20, 1200, .inl f021)), (a24, .inr (3, [.ref b29, .ref t110, .ref t211, .ref t312, .int 0])), (b29, .inr (0, [.ref yb13, .int 0])), (a35, .inr (1, [.ref h114, .ref h215, .ref h316, .int 0, .int 0, .int 0])), (a57, .inr (5, [.ref h417, .ref b518, .int 0])), (b518, .inr (0, [.ref yc19, .int 0])), (q22, .inr (7, [.int 0, .ref m124, .int 0, .int (-1), .int 0, .int 0, .int 0, .ref m225, .int 0, .int 0, .ref m326, .ref m427, .ref m528, .ref m629, .ref m730, .ref m831, .ref m932, .int 0, .ref m1033, .ref m1134, .ref m1235, .int 0, .ref m1336, .ref m1437, .ref m1538, .int 0, .ref m1639, .int 0, .int 0])), (m124, .inl (cI40, 1200, .inl f041))] H) (hD : va_D (fun q : Nat => s.heap.size ≤ q) [(q1, .inr (6, [.ref a13, .ref a24, .ref a35, .ref a46, .ref a57, .int (-1), .int 0])), (a13, .inr (0, [.ref ya8, .int 0])), (ya8, .inl (cA20, 1200, .inl f021)), (a24, .inr (3, [.ref b29, .ref t110, .ref t211, .ref t312, .int 0])), (b29, .inr (0, [.ref yb13, .int 0])), (a35, .inr (1, [.ref h114, .ref h215, .ref h316, .int 0, .int 0, .int 0])), (a57, .inr (5, [.ref h417, .ref b518, .int 0])), (b518, .inr (0, [.ref yc19, .int 0])), (q22, .inr (7, [.int 0, .ref m124, .int 0, .int (-1), .int 0, .int 0, .int 0, .ref m225, .int 0, .int 0, .ref m326, .ref m427, .ref m528, .ref m629, .ref m730, .ref m831, .ref m932, .int 0, .ref m1033, .ref m1134, .ref m1235, .int 0, .ref m1336, .ref m1437, .ref m1538, .int 0, .ref m1639, .int 0, .int 0])), (m124, .inl (cI40, 1200, .inl f041))]) (hS : va_S (fun q : Nat => s.heap.size ≤ q) s.heap H locs) {ls : Array Slot} (hl : lv_has ls 4 [(3, .int 0), (2, .ref q22), (1, .ref q1), (0, .ref b)]) : W p l e room_1 s m #[Value.ref b] below meth c H locs 40 14459 (lw_Z below #[Value.ref b] s) (F0 m 244 ls []) := by
  obtain ⟨hx, hb, hr, hml, hown0, hts0, hX, hbl, hlocks, hgv⟩ := id C0
  have hown : s.vm.findClass RL = some m.cls := hown0
  have hts : ∀ w ∈ pwAll, w.before #[Value.ref b] s = true := fun w h => hts0 w (pwAll_in w h)
  have hA : ∀ q : Nat, s.heap.size ≤ q → (fun q : Nat => s.heap.size ≤ q) q := fun _ h => h
  have hbA : ¬ (fun q : Nat => s.heap.size ≤ q) b := Nat.not_le.mpr hbl
  refine lv_aload_n hx hb dL_law_244 rfl (lv_at hl 2 rfl) ?_
  have hPc := hP.sub (ws' := [(q1, .inr (6, [.ref a13, .ref a24, .ref a35, .ref a46, .ref a57, .int (-1), .int 0]))]) [0] rfl
  have hDc := hD.sub (ws' := [(q1, .inr (6, [.ref a13, .ref a24, .ref a35, .ref a46, .ref a57, .int (-1), .int 0]))]) [0] (by decide) rfl
  have hKc := hK.sub (tys' := []) [] rfl
  have hFc := va_free (wc := [(q1, .inr (6, [.ref a13, .ref a24, .ref a35, .ref a46, .ref a57, .int (-1), .int 0]))]) hD hS hA [0] rfl
  refine va_calli (va_runV (As := []) (rest := []) ⟨hx, hb, hml, hown, hts⟩ (c_X6_where l dC dI H.size q1 a13 a24 a35 a46 a57) (cwV 0 hts gg_RL_35 rfl rfl rfl (by decide +kernel) ⟨Nat.le_of_ble_eq_true rfl, Nat.le_of_ble_eq_true rfl⟩) ⟨fun a U g mk q => by obtain ⟨q0, q1, qP, qK, qD⟩ := q; exact ⟨q0, q1, qP, va_K.moved (u := U) (U := U.calling g mk a) (Vm.Alike.refl U.vm) qK, qD⟩, va_recv hK hP (ci := 6) (q0 := 0) rfl rfl, fun U hU hW => ⟨rfl, by rw [hU], by rw [hU]; exact hPc, va_K.moved hW.alike hKc, hDc.weaken (fun _ _ _ _ => trivial)⟩⟩ rfl rfl hl.1 rfl (lv_room (Nat.le_of_ble_eq_true rfl)) dL_law_245 ⟨Nat.le_of_ble_eq_true rfl, Nat.le_of_ble_eq_true rfl⟩) hS (fun q _ h => hFc q h) hFc (fun r1 u t H1 locs ht hvm hw hB hz1 hk1 hS => ?_)
  obtain ⟨hP1, hK1, hD1⟩ := hB
  rw [ht] at hP1
  have hK1 := va_K.moved hvm.symm hK1
  obtain ⟨hP, hD⟩ := va_join (wr := [(a13, .inr (0, [.ref ya8, .int 0])), (ya8, .inl (cA20, 1200, .inl f021)), (a24, .inr (3, [.ref b29, .ref t110, .ref t211, .ref t312, .int 0])), (b29, .inr (0, [.ref yb13, .int 0])), (a35, .inr (1, [.ref h114, .ref h215, .ref h316, .int 0, .int 0, .int 0])), (a57, .inr (5, [.ref h417, .ref b518, .int 0])), (b518, .inr (0, [.ref yc19, .int 0])), (q22, .inr (7, [.int 0, .ref m124, .int 0, .int (-1), .int 0, .int 0, .int 0, .ref m225, .int 0, .int 0, .ref m326, .ref m427, .ref m528, .ref m629, .ref m730, .ref m831, .ref m932, .int 0, .ref m1033, .ref m1134, .ref m1235, .int 0, .ref m1336, .ref m1437, .ref m1538, .int 0, .ref m1639, .int 0, .int 0])), (m124, .inl (cI40, 1200, .inl f041))]) (w1 := []) hP hD [0] [1, 2, 3, 4, 5, 6, 7, 8, 9] rfl rfl (by decide) (by decide) hk1 hFc hP1 hD1
  have hK := (hK.sub (tys' := [(cA20, .byte), (cI40, .int)]) [0, 1] rfl).app hK1
  generalize H1 = H at hP hS ⊢
  have hP : va_P (dC, dI) vwCl [(a13, .inr (0, [.ref ya8, .int 0])), (ya8, .inl (cA20, 1200, .inl f021)), (a24, .inr (3, [.ref b29, .ref t110, .ref t211, .ref t312, .int 0])), (b29, .inr (0, [.ref yb13, .int 0])), (a35, .inr (1, [.ref h114, .ref h215, .ref h316, .int 0, .int 0, .int 0])), (a57, .inr (5, [.ref h417, .ref b518, .int 0])), (b518, .inr (0, [.ref yc19, .int 0])), (q22, .inr (7, [.int 0, .ref m124, .int 0, .int (-1), .int 0, .int 0, .int 0, .ref m225, .int 0, .int 0, .ref m326, .ref m427, .ref m528, .ref m629, .ref m730, .ref m831, .ref m932, .int 0, .ref m1033, .ref m1134, .ref m1235, .int 0, .ref m1336, .ref m1437, .ref m1538, .int 0, .ref m1639, .int 0, .int 0])), (m124, .inl (cI40, 1200, .inl f041))] H := hP
  have hD : va_D (fun q : Nat => s.heap.size ≤ q) [(a13, .inr (0, [.ref ya8, .int 0])), (ya8, .inl (cA20, 1200, .inl f021)), (a24, .inr (3, [.ref b29, .ref t110, .ref t211, .ref t312, .int 0])), (b29, .inr (0, [.ref yb13, .int 0])), (a35, .inr (1, [.ref h114, .ref h215, .ref h316, .int 0, .int 0, .int 0])), (a57, .inr (5, [.ref h417, .ref b518, .int 0])), (b518, .inr (0, [.ref yc19, .int 0])), (q22, .inr (7, [.int 0, .ref m124, .int 0, .int (-1), .int 0, .int 0, .int 0, .ref m225, .int 0, .int 0, .ref m326, .ref m427, .ref m528, .ref m629, .ref m730, .ref m831, .ref m932, .int 0, .ref m1033, .ref m1134, .ref m1235, .int 0, .ref m1336, .ref m1437, .ref m1538, .int 0, .ref m1639, .int 0, .int 0])), (m124, .inl (cI40, 1200, .inl f041))] := hD
  have hK : va_K (dC, dI) vwCl [(cA20, .byte), (cI40, .int)] s := hK
  have hw : r1 = (-1) := hw
  subst hw
  refine lv_aload_n hx hb dL_law_248 rfl (lv_at hl 1 rfl) ?_
  have hPc := hP.sub (ws' := [(q22, .inr (7, [.int 0, .ref m124, .int 0, .int (-1), .int 0, .int 0, .int 0, .ref m225, .int 0, .int 0, .ref m326, .ref m427, .ref m528, .ref m629, .ref m730, .ref m831, .ref m932, .int 0, .ref m1033, .ref m1134, .ref m1235, .int 0, .ref m1336, .ref m1437, .ref m1538, .int 0, .ref m1639, .int 0, .int 0]))]) [7] rfl
  have hDc := hD.sub (ws' := [(q22, .inr (7, [.int 0, .ref m124, .int 0, .int (-1), .int 0, .int 0, .int 0, .ref m225, .int 0, .int 0, .ref m326, .ref m427, .ref m528, .ref m629, .ref m730, .ref m831, .ref m932, .int 0, .ref m1033, .ref m1134, .ref m1235, .int 0, .ref m1336, .ref m1437, .ref m1538, .int 0, .ref m1639, .int 0, .int 0]))]) [7] (by decide) rfl
  have hKc := hK.sub (tys' := []) [] rfl
  have hFc := va_free (wc := [(q22, .inr (7, [.int 0, .ref m124, .int 0, .int (-1), .int 0, .int 0, .int 0, .ref m225, .int 0, .int 0, .ref m326, .ref m427, .ref m528, .ref m629, .ref m730, .ref m831, .ref m932, .int 0, .ref m1033, .ref m1134, .ref m1235, .int 0, .ref m1336, .ref m1437, .ref m1538, .int 0, .ref m1639, .int 0, .int 0]))]) hD hS hA [7] rfl
  refine va_calli (va_runV (As := []) (rest := [.int (-1)]) ⟨hx, hb, hml, hown, hts⟩ (c_X7_where l dC dI H.size q22 m124 m225 m326 m427 m528 m629 m730 m831 m932 m1033 m1134 m1235 m1336 m1437 m1538 m1639) (cwV 0 hts gg_RL_38 rfl rfl rfl (by decide +kernel) ⟨Nat.le_of_ble_eq_true rfl, Nat.le_of_ble_eq_true rfl⟩) ⟨fun a U g mk q => by obtain ⟨q0, q1, qP, qK, qD⟩ := q; exact ⟨q0, q1, qP, va_K.moved (u := U) (U := U.calling g mk a) (Vm.Alike.refl U.vm) qK, qD⟩, va_recv hK hP (ci := 7) (q0 := 7) rfl rfl, fun U hU hW => ⟨rfl, by rw [hU], by rw [hU]; exact hPc, va_K.moved hW.alike hKc, hDc.weaken (fun _ _ _ _ => trivial)⟩⟩ rfl rfl hl.1 rfl (lv_room (Nat.le_of_ble_eq_true rfl)) dL_law_249 ⟨Nat.le_of_ble_eq_true rfl, Nat.le_of_ble_eq_true rfl⟩) hS (fun q _ h => hFc q h) hFc (fun r2 u t H1 locs ht hvm hw hB hz1 hk1 hS => ?_)
  obtain ⟨hP1, hK1, hD1⟩ := hB
  rw [ht] at hP1
  have hK1 := va_K.moved hvm.symm hK1
  obtain ⟨hP, hD⟩ := va_join (wr := [(a13, .inr (0, [.ref ya8, .int 0])), (ya8, .inl (cA20, 1200, .inl f021)), (a24, .inr (3, [.ref b29, .ref t110, .ref t211, .ref t312, .int 0])), (b29, .inr (0, [.ref yb13, .int 0])), (a35, .inr (1, [.ref h114, .ref h215, .ref h316, .int 0, .int 0, .int 0])), (a57, .inr (5, [.ref h417, .ref b518, .int 0])), (b518, .inr (0, [.ref yc19, .int 0])), (m124, .inl (cI40, 1200, .inl f041))]) (w1 := []) hP hD [7] [0, 1, 2, 3, 4, 5, 6, 8] rfl rfl (by decide) (by decide) hk1 hFc hP1 hD1
  have hK := (hK.sub (tys' := [(cA20, .byte), (cI40, .int)]) [0, 1] rfl).app hK1
  generalize H1 = H at hP hS ⊢
  have hP : va_P (dC, dI) vwCl [(a13, .inr (0, [.ref ya8, .int 0])), (ya8, .inl (cA20, 1200, .inl f021)), (a24, .inr (3, [.ref b29, .ref t110, .ref t211, .ref t312, .int 0])), (b29, .inr (0, [.ref yb13, .int 0])), (a35, .inr (1, [.ref h114, .ref h215, .ref h316, .int 0, .int 0, .int 0])), (a57, .inr (5, [.ref h417, .ref b518, .int 0])), (b518, .inr (0, [.ref yc19, .int 0])), (m124, .inl (cI40, 1200, .inl f041))] H := hP
  have hD : va_D (fun q : Nat => s.heap.size ≤ q) [(a13, .inr (0, [.ref ya8, .int 0])), (ya8, .inl (cA20, 1200, .inl f021)), (a24, .inr (3, [.ref b29, .ref t110, .ref t211, .ref t312, .int 0])), (b29, .inr (0, [.ref yb13, .int 0])), (a35, .inr (1, [.ref h114, .ref h215, .ref h316, .int 0, .int 0, .int 0])), (a57, .inr (5, [.ref h417, .ref b518, .int 0])), (b518, .inr (0, [.ref yc19, .int 0])), (m124, .inl (cI40, 1200, .inl f041))] := hD
  have hK : va_K (dC, dI) vwCl [(cA20, .byte), (cI40, .int)] s := hK
  have hw : r2 = (-1) := hw
  subst hw
  refine lv_icmp_eq (tgt := 600) hx hb dL_law_252 (by decide) (fun c_252 => ?_) (fun c_252 => absurd (rfl) c_252)
  exact law_end C0 hS (lv_sub hl [3, 0] rfl)

set_option maxHeartbeats 4000000 in
set_option maxRecDepth 100000 in
theorem law_count {p : Program} {l : Launch} {e : Env} {s : State} {m : MethodId} {below : List Frame} {meth : Method} {c : Code} {b : Nat} {xs : Nat → Int32} (C0 : lw_At p s m meth c b 4 xs) {dC : Nat → ClassId} {dI : Nat → Nat → Nat} {q1 a13 a24 a35 a46 a57 ya8 b29 t110 t211 t312 yb13 h114 h215 h316 h417 b518 yc19 q22 m124 m225 m326 m427 m528 m629 m730 m831 m932 m1033 m1134 m1235 m1336 m1437 m1538 m1639 : Nat} {cA20 cI40 : ClassId} {f021 f041 : Nat → Int32} {H : Heap} {locs : List Loc} (hK : va_K (dC, dI) vwCl [(cA20, .byte), (cI40, .int)] s) (hP : va_P (dC, dI) vwCl [(q1, .inr (6, [.ref a13, .ref a24, .ref a35, .ref a46, .ref a57, .int (-1), .int 0])), (a13, .inr (0, [.ref ya8, .int 0])), (ya8, .inl (cA20, 1200, .inl f021)), (a24, .inr (3, [.ref b29, .ref t110, .ref t211, .ref t312, .int 0])), (b29, .inr (0, [.ref yb13, .int 0])), (a35, .inr (1, [.ref h114, .ref h215, .ref h316, .int 0, .int 0, .int 0])), (a57, .inr (5, [.ref h417, .ref b518, .int 0])), (b518, .inr (0, [.ref yc19, .int 0])), (q22, .inr (7, [.int 0, .ref m124, .int 0, .int (-1), .int 0, .int 0, .int 0, .ref m225, .int 0, .int 0, .ref m326, .ref m427, .ref m528, .ref m629, .ref m730, .ref m831, .ref m932, .int 0, .ref m1033, .ref m1134, .ref m1235, .int 0, .ref m1336, .ref m1437, .ref m1538, .int 0, .ref m1639, .int 0, .int 0])), (m124, .inl (cI40, 1200, .inl f041))] H) (hD : va_D (fun q : Nat => s.heap.size ≤ q) [(q1, .inr (6, [.ref a13, .ref a24, .ref a35, .ref a46, .ref a57, .int (-1), .int 0])), (a13, .inr (0, [.ref ya8, .int 0])), (ya8, .inl (cA20, 1200, .inl f021)), (a24, .inr (3, [.ref b29, .ref t110, .ref t211, .ref t312, .int 0])), (b29, .inr (0, [.ref yb13, .int 0])), (a35, .inr (1, [.ref h114, .ref h215, .ref h316, .int 0, .int 0, .int 0])), (a57, .inr (5, [.ref h417, .ref b518, .int 0])), (b518, .inr (0, [.ref yc19, .int 0])), (q22, .inr (7, [.int 0, .ref m124, .int 0, .int (-1), .int 0, .int 0, .int 0, .ref m225, .int 0, .int 0, .ref m326, .ref m427, .ref m528, .ref m629, .ref m730, .ref m831, .ref m932, .int 0, .ref m1033, .ref m1134, .ref m1235, .int 0, .ref m1336, .ref m1437, .ref m1538, .int 0, .ref m1639, .int 0, .int 0])), (m124, .inl (cI40, 1200, .inl f041))]) (hS : va_S (fun q : Nat => s.heap.size ≤ q) s.heap H locs) {ls : Array Slot} (hl : lv_has ls 4 [(3, .int 0), (2, .ref q22), (1, .ref q1), (0, .ref b)]) : W p l e room_1 s m #[Value.ref b] below meth c H locs 40 14459 (lw_Z below #[Value.ref b] s) (F0 m 257 ls []) := by
  obtain ⟨hx, hb, hr, hml, hown0, hts0, hX, hbl, hlocks, hgv⟩ := id C0
  have hown : s.vm.findClass RL = some m.cls := hown0
  have hts : ∀ w ∈ pwAll, w.before #[Value.ref b] s = true := fun w h => hts0 w (pwAll_in w h)
  have hA : ∀ q : Nat, s.heap.size ≤ q → (fun q : Nat => s.heap.size ≤ q) q := fun _ h => h
  have hbA : ¬ (fun q : Nat => s.heap.size ≤ q) b := Nat.not_le.mpr hbl
  refine lv_aload_n hx hb dL_law_257 rfl (lv_at hl 2 rfl) ?_
  refine lv_aload_n hx hb dL_law_258 rfl (lv_at hl 3 rfl) ?_
  refine lv_iload_n hx hb dL_law_259 rfl (lv_at hl 0 rfl) ?_
  refine lv_iconst (v := 1) hx hb dL_law_260 (by decide) ?_
  refine lv_iadd hx hb dL_law_261 ?_
  refine pf_top (y := 1) (by decide) ?_
  refine va_sld hx hb hX hbl hbA hS pf_i1 dL_law_262 ?_
  have hPc := hP.sub (ws' := [(q1, .inr (6, [.ref a13, .ref a24, .ref a35, .ref a46, .ref a57, .int (-1), .int 0])), (a13, .inr (0, [.ref ya8, .int 0])), (a57, .inr (5, [.ref h417, .ref b518, .int 0])), (b518, .inr (0, [.ref yc19, .int 0]))]) [0, 1, 6, 7] rfl
  have hDc := hD.sub (ws' := [(q1, .inr (6, [.ref a13, .ref a24, .ref a35, .ref a46, .ref a57, .int (-1), .int 0])), (a13, .inr (0, [.ref ya8, .int 0])), (a57, .inr (5, [.ref h417, .ref b518, .int 0])), (b518, .inr (0, [.ref yc19, .int 0]))]) [0, 1, 6, 7] (by decide) rfl
  have hKc := hK.sub (tys' := []) [] rfl
  have hFc := va_free (wc := [(q1, .inr (6, [.ref a13, .ref a24, .ref a35, .ref a46, .ref a57, .int (-1), .int 0])), (a13, .inr (0, [.ref ya8, .int 0])), (a57, .inr (5, [.ref h417, .ref b518, .int 0])), (b518, .inr (0, [.ref yc19, .int 0]))]) hD hS hA [0, 1, 6, 7] rfl
  refine va_calli (va_runV (As := [.int (xs (1 : Int32).toNatClampNeg)]) (rest := []) ⟨hx, hb, hml, hown, hts⟩ (c_X6_count l dC dI H.size q1 a13 a24 a35 a46 a57 ya8 h417 b518 yc19 (xs (1 : Int32).toNatClampNeg)) (cwV 1 hts gg_RL_39 rfl rfl rfl (by decide +kernel) ⟨Nat.le_of_ble_eq_true rfl, Nat.le_of_ble_eq_true rfl⟩) ⟨fun a U g mk q => by obtain ⟨q0, q1, qP, qK, qD⟩ := q; exact ⟨q0, q1, qP, va_K.moved (u := U) (U := U.calling g mk a) (Vm.Alike.refl U.vm) qK, qD⟩, va_recv hK hP (ci := 6) (q0 := 0) rfl rfl, fun U hU hW => ⟨rfl, by rw [hU], by rw [hU]; exact hPc, va_K.moved hW.alike hKc, hDc.weaken (fun _ _ _ _ => trivial)⟩⟩ rfl rfl hl.1 rfl (lv_room (Nat.le_of_ble_eq_true rfl)) dL_law_263 ⟨Nat.le_of_ble_eq_true rfl, Nat.le_of_ble_eq_true rfl⟩) hS (fun q _ h => hFc q h) hFc (fun r1 u t H1 locs ht hvm hw hB hz1 hk1 hS => ?_)
  obtain ⟨hP1, hK1, hD1⟩ := hB
  rw [ht] at hP1
  have hK1 := va_K.moved hvm.symm hK1
  obtain ⟨hP, hD⟩ := va_join (wr := [(ya8, .inl (cA20, 1200, .inl f021)), (a24, .inr (3, [.ref b29, .ref t110, .ref t211, .ref t312, .int 0])), (b29, .inr (0, [.ref yb13, .int 0])), (a35, .inr (1, [.ref h114, .ref h215, .ref h316, .int 0, .int 0, .int 0])), (q22, .inr (7, [.int 0, .ref m124, .int 0, .int (-1), .int 0, .int 0, .int 0, .ref m225, .int 0, .int 0, .ref m326, .ref m427, .ref m528, .ref m629, .ref m730, .ref m831, .ref m932, .int 0, .ref m1033, .ref m1134, .ref m1235, .int 0, .ref m1336, .ref m1437, .ref m1538, .int 0, .ref m1639, .int 0, .int 0])), (m124, .inl (cI40, 1200, .inl f041))]) (w1 := []) hP hD [0, 1, 6, 7] [2, 3, 4, 5, 8, 9] rfl rfl (by decide) (by decide) hk1 hFc hP1 hD1
  have hK := (hK.sub (tys' := [(cA20, .byte), (cI40, .int)]) [0, 1] rfl).app hK1
  generalize H1 = H at hP hS ⊢
  have hP : va_P (dC, dI) vwCl [(ya8, .inl (cA20, 1200, .inl f021)), (a24, .inr (3, [.ref b29, .ref t110, .ref t211, .ref t312, .int 0])), (b29, .inr (0, [.ref yb13, .int 0])), (a35, .inr (1, [.ref h114, .ref h215, .ref h316, .int 0, .int 0, .int 0])), (q22, .inr (7, [.int 0, .ref m124, .int 0, .int (-1), .int 0, .int 0, .int 0, .ref m225, .int 0, .int 0, .ref m326, .ref m427, .ref m528, .ref m629, .ref m730, .ref m831, .ref m932, .int 0, .ref m1033, .ref m1134, .ref m1235, .int 0, .ref m1336, .ref m1437, .ref m1538, .int 0, .ref m1639, .int 0, .int 0])), (m124, .inl (cI40, 1200, .inl f041))] H := hP
  have hD : va_D (fun q : Nat => s.heap.size ≤ q) [(ya8, .inl (cA20, 1200, .inl f021)), (a24, .inr (3, [.ref b29, .ref t110, .ref t211, .ref t312, .int 0])), (b29, .inr (0, [.ref yb13, .int 0])), (a35, .inr (1, [.ref h114, .ref h215, .ref h316, .int 0, .int 0, .int 0])), (q22, .inr (7, [.int 0, .ref m124, .int 0, .int (-1), .int 0, .int 0, .int 0, .ref m225, .int 0, .int 0, .ref m326, .ref m427, .ref m528, .ref m629, .ref m730, .ref m831, .ref m932, .int 0, .ref m1033, .ref m1134, .ref m1235, .int 0, .ref m1336, .ref m1437, .ref m1538, .int 0, .ref m1639, .int 0, .int 0])), (m124, .inl (cI40, 1200, .inl f041))] := hD
  have hK : va_K (dC, dI) vwCl [(cA20, .byte), (cI40, .int)] s := hK
  have hw : r1 = pf_count (xs (1 : Int32).toNatClampNeg) := hw
  subst hw
  refine lv_aload_n hx hb dL_law_266 rfl (lv_at hl 1 rfl) ?_
  refine lv_aload_n hx hb dL_law_267 rfl (lv_at hl 3 rfl) ?_
  refine lv_iload_n hx hb dL_law_268 rfl (lv_at hl 0 rfl) ?_
  refine lv_iconst (v := 1) hx hb dL_law_269 (by decide) ?_
  refine lv_iadd hx hb dL_law_270 ?_
  refine pf_top (y := 1) (by decide) ?_
  refine va_sld hx hb hX hbl hbA hS pf_i1 dL_law_271 ?_
  have hPc := hP.sub (ws' := [(q22, .inr (7, [.int 0, .ref m124, .int 0, .int (-1), .int 0, .int 0, .int 0, .ref m225, .int 0, .int 0, .ref m326, .ref m427, .ref m528, .ref m629, .ref m730, .ref m831, .ref m932, .int 0, .ref m1033, .ref m1134, .ref m1235, .int 0, .ref m1336, .ref m1437, .ref m1538, .int 0, .ref m1639, .int 0, .int 0]))]) [4] rfl
  have hDc := hD.sub (ws' := [(q22, .inr (7, [.int 0, .ref m124, .int 0, .int (-1), .int 0, .int 0, .int 0, .ref m225, .int 0, .int 0, .ref m326, .ref m427, .ref m528, .ref m629, .ref m730, .ref m831, .ref m932, .int 0, .ref m1033, .ref m1134, .ref m1235, .int 0, .ref m1336, .ref m1437, .ref m1538, .int 0, .ref m1639, .int 0, .int 0]))]) [4] (by decide) rfl
  have hKc := hK.sub (tys' := []) [] rfl
  have hFc := va_free (wc := [(q22, .inr (7, [.int 0, .ref m124, .int 0, .int (-1), .int 0, .int 0, .int 0, .ref m225, .int 0, .int 0, .ref m326, .ref m427, .ref m528, .ref m629, .ref m730, .ref m831, .ref m932, .int 0, .ref m1033, .ref m1134, .ref m1235, .int 0, .ref m1336, .ref m1437, .ref m1538, .int 0, .ref m1639, .int 0, .int 0]))]) hD hS hA [4] rfl
  refine va_calli (va_runV (As := [.int (xs (1 : Int32).toNatClampNeg)]) (rest := [.int (pf_count (xs (1 : Int32).toNatClampNeg))]) ⟨hx, hb, hml, hown, hts⟩ (c_X7_count l dC dI H.size q22 m124 m225 m326 m427 m528 m629 m730 m831 m932 m1033 m1134 m1235 m1336 m1437 m1538 m1639 (xs (1 : Int32).toNatClampNeg)) (cwV 1 hts gg_RL_42 rfl rfl rfl (by decide +kernel) ⟨Nat.le_of_ble_eq_true rfl, Nat.le_of_ble_eq_true rfl⟩) ⟨fun a U g mk q => by obtain ⟨q0, q1, qP, qK, qD⟩ := q; exact ⟨q0, q1, qP, va_K.moved (u := U) (U := U.calling g mk a) (Vm.Alike.refl U.vm) qK, qD⟩, va_recv hK hP (ci := 7) (q0 := 4) rfl rfl, fun U hU hW => ⟨rfl, by rw [hU], by rw [hU]; exact hPc, va_K.moved hW.alike hKc, hDc.weaken (fun _ _ _ _ => trivial)⟩⟩ rfl rfl hl.1 rfl (lv_room (Nat.le_of_ble_eq_true rfl)) dL_law_272 ⟨Nat.le_of_ble_eq_true rfl, Nat.le_of_ble_eq_true rfl⟩) hS (fun q _ h => hFc q h) hFc (fun r2 u t H1 locs ht hvm hw hB hz1 hk1 hS => ?_)
  obtain ⟨hP1, hK1, hD1⟩ := hB
  rw [ht] at hP1
  have hK1 := va_K.moved hvm.symm hK1
  obtain ⟨hP, hD⟩ := va_join (wr := [(ya8, .inl (cA20, 1200, .inl f021)), (a24, .inr (3, [.ref b29, .ref t110, .ref t211, .ref t312, .int 0])), (b29, .inr (0, [.ref yb13, .int 0])), (a35, .inr (1, [.ref h114, .ref h215, .ref h316, .int 0, .int 0, .int 0])), (m124, .inl (cI40, 1200, .inl f041))]) (w1 := []) hP hD [4] [0, 1, 2, 3, 5] rfl rfl (by decide) (by decide) hk1 hFc hP1 hD1
  have hK := (hK.sub (tys' := [(cA20, .byte), (cI40, .int)]) [0, 1] rfl).app hK1
  generalize H1 = H at hP hS ⊢
  have hP : va_P (dC, dI) vwCl [(ya8, .inl (cA20, 1200, .inl f021)), (a24, .inr (3, [.ref b29, .ref t110, .ref t211, .ref t312, .int 0])), (b29, .inr (0, [.ref yb13, .int 0])), (a35, .inr (1, [.ref h114, .ref h215, .ref h316, .int 0, .int 0, .int 0])), (m124, .inl (cI40, 1200, .inl f041))] H := hP
  have hD : va_D (fun q : Nat => s.heap.size ≤ q) [(ya8, .inl (cA20, 1200, .inl f021)), (a24, .inr (3, [.ref b29, .ref t110, .ref t211, .ref t312, .int 0])), (b29, .inr (0, [.ref yb13, .int 0])), (a35, .inr (1, [.ref h114, .ref h215, .ref h316, .int 0, .int 0, .int 0])), (m124, .inl (cI40, 1200, .inl f041))] := hD
  have hK : va_K (dC, dI) vwCl [(cA20, .byte), (cI40, .int)] s := hK
  have hw : r2 = pf_count (xs (1 : Int32).toNatClampNeg) := hw
  subst hw
  refine lv_icmp_eq (tgt := 600) hx hb dL_law_275 (by decide) (fun c_275 => ?_) (fun c_275 => absurd (rfl) c_275)
  exact law_end C0 hS (lv_sub hl [3, 0] rfl)

set_option maxHeartbeats 4000000 in
set_option maxRecDepth 100000 in
theorem law_group {p : Program} {l : Launch} {e : Env} {s : State} {m : MethodId} {below : List Frame} {meth : Method} {c : Code} {b : Nat} {xs : Nat → Int32} (C0 : lw_At p s m meth c b 4 xs) {dC : Nat → ClassId} {dI : Nat → Nat → Nat} {q1 a13 a24 a35 a46 a57 ya8 b29 t110 t211 t312 yb13 h114 h215 h316 h417 b518 yc19 q22 m124 m225 m326 m427 m528 m629 m730 m831 m932 m1033 m1134 m1235 m1336 m1437 m1538 m1639 : Nat} {cA20 cI40 : ClassId} {f021 f041 : Nat → Int32} {H : Heap} {locs : List Loc} (hK : va_K (dC, dI) vwCl [(cA20, .byte), (cI40, .int)] s) (hP : va_P (dC, dI) vwCl [(q1, .inr (6, [.ref a13, .ref a24, .ref a35, .ref a46, .ref a57, .int (-1), .int 0])), (a13, .inr (0, [.ref ya8, .int 0])), (ya8, .inl (cA20, 1200, .inl f021)), (a24, .inr (3, [.ref b29, .ref t110, .ref t211, .ref t312, .int 0])), (b29, .inr (0, [.ref yb13, .int 0])), (a35, .inr (1, [.ref h114, .ref h215, .ref h316, .int 0, .int 0, .int 0])), (a57, .inr (5, [.ref h417, .ref b518, .int 0])), (b518, .inr (0, [.ref yc19, .int 0])), (q22, .inr (7, [.int 0, .ref m124, .int 0, .int (-1), .int 0, .int 0, .int 0, .ref m225, .int 0, .int 0, .ref m326, .ref m427, .ref m528, .ref m629, .ref m730, .ref m831, .ref m932, .int 0, .ref m1033, .ref m1134, .ref m1235, .int 0, .ref m1336, .ref m1437, .ref m1538, .int 0, .ref m1639, .int 0, .int 0])), (m124, .inl (cI40, 1200, .inl f041))] H) (hD : va_D (fun q : Nat => s.heap.size ≤ q) [(q1, .inr (6, [.ref a13, .ref a24, .ref a35, .ref a46, .ref a57, .int (-1), .int 0])), (a13, .inr (0, [.ref ya8, .int 0])), (ya8, .inl (cA20, 1200, .inl f021)), (a24, .inr (3, [.ref b29, .ref t110, .ref t211, .ref t312, .int 0])), (b29, .inr (0, [.ref yb13, .int 0])), (a35, .inr (1, [.ref h114, .ref h215, .ref h316, .int 0, .int 0, .int 0])), (a57, .inr (5, [.ref h417, .ref b518, .int 0])), (b518, .inr (0, [.ref yc19, .int 0])), (q22, .inr (7, [.int 0, .ref m124, .int 0, .int (-1), .int 0, .int 0, .int 0, .ref m225, .int 0, .int 0, .ref m326, .ref m427, .ref m528, .ref m629, .ref m730, .ref m831, .ref m932, .int 0, .ref m1033, .ref m1134, .ref m1235, .int 0, .ref m1336, .ref m1437, .ref m1538, .int 0, .ref m1639, .int 0, .int 0])), (m124, .inl (cI40, 1200, .inl f041))]) (hS : va_S (fun q : Nat => s.heap.size ≤ q) s.heap H locs) {ls : Array Slot} (hl : lv_has ls 4 [(3, .int 0), (2, .ref q22), (1, .ref q1), (0, .ref b)]) : W p l e room_1 s m #[Value.ref b] below meth c H locs 40 14459 (lw_Z below #[Value.ref b] s) (F0 m 280 ls []) := by
  obtain ⟨hx, hb, hr, hml, hown0, hts0, hX, hbl, hlocks, hgv⟩ := id C0
  have hown : s.vm.findClass RL = some m.cls := hown0
  have hts : ∀ w ∈ pwAll, w.before #[Value.ref b] s = true := fun w h => hts0 w (pwAll_in w h)
  have hA : ∀ q : Nat, s.heap.size ≤ q → (fun q : Nat => s.heap.size ≤ q) q := fun _ h => h
  have hbA : ¬ (fun q : Nat => s.heap.size ≤ q) b := Nat.not_le.mpr hbl
  refine lv_aload_n hx hb dL_law_280 rfl (lv_at hl 2 rfl) ?_
  refine lv_aload_n hx hb dL_law_281 rfl (lv_at hl 3 rfl) ?_
  refine lv_iload_n hx hb dL_law_282 rfl (lv_at hl 0 rfl) ?_
  refine lv_iconst (v := 1) hx hb dL_law_283 (by decide) ?_
  refine lv_iadd hx hb dL_law_284 ?_
  refine pf_top (y := 1) (by decide) ?_
  refine va_sld hx hb hX hbl hbA hS pf_i1 dL_law_285 ?_
  refine lv_aload_n hx hb dL_law_286 rfl (lv_at hl 3 rfl) ?_
  refine lv_iload_n hx hb dL_law_287 rfl (lv_at hl 0 rfl) ?_
  refine lv_iconst (v := 2) hx hb dL_law_288 (by decide) ?_
  refine lv_iadd hx hb dL_law_289 ?_
  refine pf_top (y := 2) (by decide) ?_
  refine va_sld hx hb hX hbl hbA hS pf_i2 dL_law_290 ?_
  have hPc := hP.sub (ws' := [(q1, .inr (6, [.ref a13, .ref a24, .ref a35, .ref a46, .ref a57, .int (-1), .int 0]))]) [0] rfl
  have hDc := hD.sub (ws' := [(q1, .inr (6, [.ref a13, .ref a24, .ref a35, .ref a46, .ref a57, .int (-1), .int 0]))]) [0] (by decide) rfl
  have hKc := hK.sub (tys' := []) [] rfl
  have hFc := va_free (wc := [(q1, .inr (6, [.ref a13, .ref a24, .ref a35, .ref a46, .ref a57, .int (-1), .int 0]))]) hD hS hA [0] rfl
  refine va_calli (va_runV (As := [.int (xs (1 : Int32).toNatClampNeg), .int (xs (2 : Int32).toNatClampNeg)]) (rest := []) ⟨hx, hb, hml, hown, hts⟩ (c_X6_group l dC dI H.size q1 a13 a24 a35 a46 a57 (xs (1 : Int32).toNatClampNeg) (xs (2 : Int32).toNatClampNeg)) (cwV 2 hts gg_RL_43 rfl rfl rfl (by decide +kernel) ⟨Nat.le_of_ble_eq_true rfl, Nat.le_of_ble_eq_true rfl⟩) ⟨fun a U g mk q => by obtain ⟨q0, q1, qP, qK, qD⟩ := q; exact ⟨q0, q1, qP, va_K.moved (u := U) (U := U.calling g mk a) (Vm.Alike.refl U.vm) qK, qD⟩, va_recv hK hP (ci := 6) (q0 := 0) rfl rfl, fun U hU hW => ⟨rfl, by rw [hU], by rw [hU]; exact hPc, va_K.moved hW.alike hKc, hDc.weaken (fun _ _ _ _ => trivial)⟩⟩ rfl rfl hl.1 rfl (lv_room (Nat.le_of_ble_eq_true rfl)) dL_law_291 ⟨Nat.le_of_ble_eq_true rfl, Nat.le_of_ble_eq_true rfl⟩) hS (fun q _ h => hFc q h) hFc (fun r1 u t H1 locs ht hvm hw hB hz1 hk1 hS => ?_)
  obtain ⟨hP1, hK1, hD1⟩ := hB
  rw [ht] at hP1
  have hK1 := va_K.moved hvm.symm hK1
  obtain ⟨hP, hD⟩ := va_join (wr := [(a13, .inr (0, [.ref ya8, .int 0])), (ya8, .inl (cA20, 1200, .inl f021)), (a24, .inr (3, [.ref b29, .ref t110, .ref t211, .ref t312, .int 0])), (b29, .inr (0, [.ref yb13, .int 0])), (a35, .inr (1, [.ref h114, .ref h215, .ref h316, .int 0, .int 0, .int 0])), (a57, .inr (5, [.ref h417, .ref b518, .int 0])), (b518, .inr (0, [.ref yc19, .int 0])), (q22, .inr (7, [.int 0, .ref m124, .int 0, .int (-1), .int 0, .int 0, .int 0, .ref m225, .int 0, .int 0, .ref m326, .ref m427, .ref m528, .ref m629, .ref m730, .ref m831, .ref m932, .int 0, .ref m1033, .ref m1134, .ref m1235, .int 0, .ref m1336, .ref m1437, .ref m1538, .int 0, .ref m1639, .int 0, .int 0])), (m124, .inl (cI40, 1200, .inl f041))]) (w1 := []) hP hD [0] [1, 2, 3, 4, 5, 6, 7, 8, 9] rfl rfl (by decide) (by decide) hk1 hFc hP1 hD1
  have hK := (hK.sub (tys' := [(cA20, .byte), (cI40, .int)]) [0, 1] rfl).app hK1
  generalize H1 = H at hP hS ⊢
  have hP : va_P (dC, dI) vwCl [(a13, .inr (0, [.ref ya8, .int 0])), (ya8, .inl (cA20, 1200, .inl f021)), (a24, .inr (3, [.ref b29, .ref t110, .ref t211, .ref t312, .int 0])), (b29, .inr (0, [.ref yb13, .int 0])), (a35, .inr (1, [.ref h114, .ref h215, .ref h316, .int 0, .int 0, .int 0])), (a57, .inr (5, [.ref h417, .ref b518, .int 0])), (b518, .inr (0, [.ref yc19, .int 0])), (q22, .inr (7, [.int 0, .ref m124, .int 0, .int (-1), .int 0, .int 0, .int 0, .ref m225, .int 0, .int 0, .ref m326, .ref m427, .ref m528, .ref m629, .ref m730, .ref m831, .ref m932, .int 0, .ref m1033, .ref m1134, .ref m1235, .int 0, .ref m1336, .ref m1437, .ref m1538, .int 0, .ref m1639, .int 0, .int 0])), (m124, .inl (cI40, 1200, .inl f041))] H := hP
  have hD : va_D (fun q : Nat => s.heap.size ≤ q) [(a13, .inr (0, [.ref ya8, .int 0])), (ya8, .inl (cA20, 1200, .inl f021)), (a24, .inr (3, [.ref b29, .ref t110, .ref t211, .ref t312, .int 0])), (b29, .inr (0, [.ref yb13, .int 0])), (a35, .inr (1, [.ref h114, .ref h215, .ref h316, .int 0, .int 0, .int 0])), (a57, .inr (5, [.ref h417, .ref b518, .int 0])), (b518, .inr (0, [.ref yc19, .int 0])), (q22, .inr (7, [.int 0, .ref m124, .int 0, .int (-1), .int 0, .int 0, .int 0, .ref m225, .int 0, .int 0, .ref m326, .ref m427, .ref m528, .ref m629, .ref m730, .ref m831, .ref m932, .int 0, .ref m1033, .ref m1134, .ref m1235, .int 0, .ref m1336, .ref m1437, .ref m1538, .int 0, .ref m1639, .int 0, .int 0])), (m124, .inl (cI40, 1200, .inl f041))] := hD
  have hK : va_K (dC, dI) vwCl [(cA20, .byte), (cI40, .int)] s := hK
  have hw : r1 = (-4) := hw
  subst hw
  refine lv_aload_n hx hb dL_law_294 rfl (lv_at hl 1 rfl) ?_
  refine lv_aload_n hx hb dL_law_295 rfl (lv_at hl 3 rfl) ?_
  refine lv_iload_n hx hb dL_law_296 rfl (lv_at hl 0 rfl) ?_
  refine lv_iconst (v := 1) hx hb dL_law_297 (by decide) ?_
  refine lv_iadd hx hb dL_law_298 ?_
  refine pf_top (y := 1) (by decide) ?_
  refine va_sld hx hb hX hbl hbA hS pf_i1 dL_law_299 ?_
  refine lv_aload_n hx hb dL_law_300 rfl (lv_at hl 3 rfl) ?_
  refine lv_iload_n hx hb dL_law_301 rfl (lv_at hl 0 rfl) ?_
  refine lv_iconst (v := 2) hx hb dL_law_302 (by decide) ?_
  refine lv_iadd hx hb dL_law_303 ?_
  refine pf_top (y := 2) (by decide) ?_
  refine va_sld hx hb hX hbl hbA hS pf_i2 dL_law_304 ?_
  have hPc := hP.sub (ws' := [(q22, .inr (7, [.int 0, .ref m124, .int 0, .int (-1), .int 0, .int 0, .int 0, .ref m225, .int 0, .int 0, .ref m326, .ref m427, .ref m528, .ref m629, .ref m730, .ref m831, .ref m932, .int 0, .ref m1033, .ref m1134, .ref m1235, .int 0, .ref m1336, .ref m1437, .ref m1538, .int 0, .ref m1639, .int 0, .int 0]))]) [7] rfl
  have hDc := hD.sub (ws' := [(q22, .inr (7, [.int 0, .ref m124, .int 0, .int (-1), .int 0, .int 0, .int 0, .ref m225, .int 0, .int 0, .ref m326, .ref m427, .ref m528, .ref m629, .ref m730, .ref m831, .ref m932, .int 0, .ref m1033, .ref m1134, .ref m1235, .int 0, .ref m1336, .ref m1437, .ref m1538, .int 0, .ref m1639, .int 0, .int 0]))]) [7] (by decide) rfl
  have hKc := hK.sub (tys' := []) [] rfl
  have hFc := va_free (wc := [(q22, .inr (7, [.int 0, .ref m124, .int 0, .int (-1), .int 0, .int 0, .int 0, .ref m225, .int 0, .int 0, .ref m326, .ref m427, .ref m528, .ref m629, .ref m730, .ref m831, .ref m932, .int 0, .ref m1033, .ref m1134, .ref m1235, .int 0, .ref m1336, .ref m1437, .ref m1538, .int 0, .ref m1639, .int 0, .int 0]))]) hD hS hA [7] rfl
  refine va_calli (va_runV (As := [.int (xs (1 : Int32).toNatClampNeg), .int (xs (2 : Int32).toNatClampNeg)]) (rest := [.int (-4)]) ⟨hx, hb, hml, hown, hts⟩ (c_X7_group l dC dI H.size q22 m124 m225 m326 m427 m528 m629 m730 m831 m932 m1033 m1134 m1235 m1336 m1437 m1538 m1639 (xs (1 : Int32).toNatClampNeg) (xs (2 : Int32).toNatClampNeg)) (cwV 2 hts gg_RL_46 rfl rfl rfl (by decide +kernel) ⟨Nat.le_of_ble_eq_true rfl, Nat.le_of_ble_eq_true rfl⟩) ⟨fun a U g mk q => by obtain ⟨q0, q1, qP, qK, qD⟩ := q; exact ⟨q0, q1, qP, va_K.moved (u := U) (U := U.calling g mk a) (Vm.Alike.refl U.vm) qK, qD⟩, va_recv hK hP (ci := 7) (q0 := 7) rfl rfl, fun U hU hW => ⟨rfl, by rw [hU], by rw [hU]; exact hPc, va_K.moved hW.alike hKc, hDc.weaken (fun _ _ _ _ => trivial)⟩⟩ rfl rfl hl.1 rfl (lv_room (Nat.le_of_ble_eq_true rfl)) dL_law_305 ⟨Nat.le_of_ble_eq_true rfl, Nat.le_of_ble_eq_true rfl⟩) hS (fun q _ h => hFc q h) hFc (fun r2 u t H1 locs ht hvm hw hB hz1 hk1 hS => ?_)
  obtain ⟨hP1, hK1, hD1⟩ := hB
  rw [ht] at hP1
  have hK1 := va_K.moved hvm.symm hK1
  obtain ⟨hP, hD⟩ := va_join (wr := [(a13, .inr (0, [.ref ya8, .int 0])), (ya8, .inl (cA20, 1200, .inl f021)), (a24, .inr (3, [.ref b29, .ref t110, .ref t211, .ref t312, .int 0])), (b29, .inr (0, [.ref yb13, .int 0])), (a35, .inr (1, [.ref h114, .ref h215, .ref h316, .int 0, .int 0, .int 0])), (a57, .inr (5, [.ref h417, .ref b518, .int 0])), (b518, .inr (0, [.ref yc19, .int 0])), (m124, .inl (cI40, 1200, .inl f041))]) (w1 := []) hP hD [7] [0, 1, 2, 3, 4, 5, 6, 8] rfl rfl (by decide) (by decide) hk1 hFc hP1 hD1
  have hK := (hK.sub (tys' := [(cA20, .byte), (cI40, .int)]) [0, 1] rfl).app hK1
  generalize H1 = H at hP hS ⊢
  have hP : va_P (dC, dI) vwCl [(a13, .inr (0, [.ref ya8, .int 0])), (ya8, .inl (cA20, 1200, .inl f021)), (a24, .inr (3, [.ref b29, .ref t110, .ref t211, .ref t312, .int 0])), (b29, .inr (0, [.ref yb13, .int 0])), (a35, .inr (1, [.ref h114, .ref h215, .ref h316, .int 0, .int 0, .int 0])), (a57, .inr (5, [.ref h417, .ref b518, .int 0])), (b518, .inr (0, [.ref yc19, .int 0])), (m124, .inl (cI40, 1200, .inl f041))] H := hP
  have hD : va_D (fun q : Nat => s.heap.size ≤ q) [(a13, .inr (0, [.ref ya8, .int 0])), (ya8, .inl (cA20, 1200, .inl f021)), (a24, .inr (3, [.ref b29, .ref t110, .ref t211, .ref t312, .int 0])), (b29, .inr (0, [.ref yb13, .int 0])), (a35, .inr (1, [.ref h114, .ref h215, .ref h316, .int 0, .int 0, .int 0])), (a57, .inr (5, [.ref h417, .ref b518, .int 0])), (b518, .inr (0, [.ref yc19, .int 0])), (m124, .inl (cI40, 1200, .inl f041))] := hD
  have hK : va_K (dC, dI) vwCl [(cA20, .byte), (cI40, .int)] s := hK
  have hw : r2 = (-4) := hw
  subst hw
  refine lv_icmp_eq (tgt := 600) hx hb dL_law_308 (by decide) (fun c_308 => ?_) (fun c_308 => absurd (rfl) c_308)
  exact law_end C0 hS (lv_sub hl [3, 0] rfl)

set_option maxHeartbeats 4000000 in
set_option maxRecDepth 100000 in
theorem law_setOf {p : Program} {l : Launch} {e : Env} {s : State} {m : MethodId} {below : List Frame} {meth : Method} {c : Code} {b : Nat} {xs : Nat → Int32} (C0 : lw_At p s m meth c b 4 xs) {dC : Nat → ClassId} {dI : Nat → Nat → Nat} {q1 a13 a24 a35 a46 a57 ya8 b29 t110 t211 t312 yb13 h114 h215 h316 h417 b518 yc19 q22 m124 m225 m326 m427 m528 m629 m730 m831 m932 m1033 m1134 m1235 m1336 m1437 m1538 m1639 : Nat} {cA20 cI40 : ClassId} {f021 f041 : Nat → Int32} {H : Heap} {locs : List Loc} (hK : va_K (dC, dI) vwCl [(cA20, .byte), (cI40, .int)] s) (hP : va_P (dC, dI) vwCl [(q1, .inr (6, [.ref a13, .ref a24, .ref a35, .ref a46, .ref a57, .int (-1), .int 0])), (a13, .inr (0, [.ref ya8, .int 0])), (ya8, .inl (cA20, 1200, .inl f021)), (a24, .inr (3, [.ref b29, .ref t110, .ref t211, .ref t312, .int 0])), (b29, .inr (0, [.ref yb13, .int 0])), (a35, .inr (1, [.ref h114, .ref h215, .ref h316, .int 0, .int 0, .int 0])), (a57, .inr (5, [.ref h417, .ref b518, .int 0])), (b518, .inr (0, [.ref yc19, .int 0])), (q22, .inr (7, [.int 0, .ref m124, .int 0, .int (-1), .int 0, .int 0, .int 0, .ref m225, .int 0, .int 0, .ref m326, .ref m427, .ref m528, .ref m629, .ref m730, .ref m831, .ref m932, .int 0, .ref m1033, .ref m1134, .ref m1235, .int 0, .ref m1336, .ref m1437, .ref m1538, .int 0, .ref m1639, .int 0, .int 0])), (m124, .inl (cI40, 1200, .inl f041))] H) (hD : va_D (fun q : Nat => s.heap.size ≤ q) [(q1, .inr (6, [.ref a13, .ref a24, .ref a35, .ref a46, .ref a57, .int (-1), .int 0])), (a13, .inr (0, [.ref ya8, .int 0])), (ya8, .inl (cA20, 1200, .inl f021)), (a24, .inr (3, [.ref b29, .ref t110, .ref t211, .ref t312, .int 0])), (b29, .inr (0, [.ref yb13, .int 0])), (a35, .inr (1, [.ref h114, .ref h215, .ref h316, .int 0, .int 0, .int 0])), (a57, .inr (5, [.ref h417, .ref b518, .int 0])), (b518, .inr (0, [.ref yc19, .int 0])), (q22, .inr (7, [.int 0, .ref m124, .int 0, .int (-1), .int 0, .int 0, .int 0, .ref m225, .int 0, .int 0, .ref m326, .ref m427, .ref m528, .ref m629, .ref m730, .ref m831, .ref m932, .int 0, .ref m1033, .ref m1134, .ref m1235, .int 0, .ref m1336, .ref m1437, .ref m1538, .int 0, .ref m1639, .int 0, .int 0])), (m124, .inl (cI40, 1200, .inl f041))]) (hS : va_S (fun q : Nat => s.heap.size ≤ q) s.heap H locs) {ls : Array Slot} (hl : lv_has ls 4 [(3, .int 0), (2, .ref q22), (1, .ref q1), (0, .ref b)]) : W p l e room_1 s m #[Value.ref b] below meth c H locs 40 14459 (lw_Z below #[Value.ref b] s) (F0 m 313 ls []) := by
  obtain ⟨hx, hb, hr, hml, hown0, hts0, hX, hbl, hlocks, hgv⟩ := id C0
  have hown : s.vm.findClass RL = some m.cls := hown0
  have hts : ∀ w ∈ pwAll, w.before #[Value.ref b] s = true := fun w h => hts0 w (pwAll_in w h)
  have hA : ∀ q : Nat, s.heap.size ≤ q → (fun q : Nat => s.heap.size ≤ q) q := fun _ h => h
  have hbA : ¬ (fun q : Nat => s.heap.size ≤ q) b := Nat.not_le.mpr hbl
  refine lv_aload_n hx hb dL_law_313 rfl (lv_at hl 2 rfl) ?_
  refine lv_aload_n hx hb dL_law_314 rfl (lv_at hl 3 rfl) ?_
  refine lv_iload_n hx hb dL_law_315 rfl (lv_at hl 0 rfl) ?_
  refine lv_iconst (v := 1) hx hb dL_law_316 (by decide) ?_
  refine lv_iadd hx hb dL_law_317 ?_
  refine pf_top (y := 1) (by decide) ?_
  refine va_sld hx hb hX hbl hbA hS pf_i1 dL_law_318 ?_
  refine lv_aload_n hx hb dL_law_319 rfl (lv_at hl 3 rfl) ?_
  refine lv_iload_n hx hb dL_law_320 rfl (lv_at hl 0 rfl) ?_
  refine lv_iconst (v := 2) hx hb dL_law_321 (by decide) ?_
  refine lv_iadd hx hb dL_law_322 ?_
  refine pf_top (y := 2) (by decide) ?_
  refine va_sld hx hb hX hbl hbA hS pf_i2 dL_law_323 ?_
  have hPc := hP.sub (ws' := [(q1, .inr (6, [.ref a13, .ref a24, .ref a35, .ref a46, .ref a57, .int (-1), .int 0]))]) [0] rfl
  have hDc := hD.sub (ws' := [(q1, .inr (6, [.ref a13, .ref a24, .ref a35, .ref a46, .ref a57, .int (-1), .int 0]))]) [0] (by decide) rfl
  have hKc := hK.sub (tys' := []) [] rfl
  have hFc := va_free (wc := [(q1, .inr (6, [.ref a13, .ref a24, .ref a35, .ref a46, .ref a57, .int (-1), .int 0]))]) hD hS hA [0] rfl
  refine va_calli (va_runV (As := [.int (xs (1 : Int32).toNatClampNeg), .int (xs (2 : Int32).toNatClampNeg)]) (rest := []) ⟨hx, hb, hml, hown, hts⟩ (c_X6_setOf l dC dI H.size q1 a13 a24 a35 a46 a57 (xs (1 : Int32).toNatClampNeg) (xs (2 : Int32).toNatClampNeg)) (cwV 2 hts gg_RL_47 rfl rfl rfl (by decide +kernel) ⟨Nat.le_of_ble_eq_true rfl, Nat.le_of_ble_eq_true rfl⟩) ⟨fun a U g mk q => by obtain ⟨q0, q1, qP, qK, qD⟩ := q; exact ⟨q0, q1, qP, va_K.moved (u := U) (U := U.calling g mk a) (Vm.Alike.refl U.vm) qK, qD⟩, va_recv hK hP (ci := 6) (q0 := 0) rfl rfl, fun U hU hW => ⟨rfl, by rw [hU], by rw [hU]; exact hPc, va_K.moved hW.alike hKc, hDc.weaken (fun _ _ _ _ => trivial)⟩⟩ rfl rfl hl.1 rfl (lv_room (Nat.le_of_ble_eq_true rfl)) dL_law_324 ⟨Nat.le_of_ble_eq_true rfl, Nat.le_of_ble_eq_true rfl⟩) hS (fun q _ h => hFc q h) hFc (fun r1 u t H1 locs ht hvm hw hB hz1 hk1 hS => ?_)
  obtain ⟨hP1, hK1, hD1⟩ := hB
  rw [ht] at hP1
  have hK1 := va_K.moved hvm.symm hK1
  obtain ⟨hP, hD⟩ := va_join (wr := [(a13, .inr (0, [.ref ya8, .int 0])), (ya8, .inl (cA20, 1200, .inl f021)), (a24, .inr (3, [.ref b29, .ref t110, .ref t211, .ref t312, .int 0])), (b29, .inr (0, [.ref yb13, .int 0])), (a35, .inr (1, [.ref h114, .ref h215, .ref h316, .int 0, .int 0, .int 0])), (a57, .inr (5, [.ref h417, .ref b518, .int 0])), (b518, .inr (0, [.ref yc19, .int 0])), (q22, .inr (7, [.int 0, .ref m124, .int 0, .int (-1), .int 0, .int 0, .int 0, .ref m225, .int 0, .int 0, .ref m326, .ref m427, .ref m528, .ref m629, .ref m730, .ref m831, .ref m932, .int 0, .ref m1033, .ref m1134, .ref m1235, .int 0, .ref m1336, .ref m1437, .ref m1538, .int 0, .ref m1639, .int 0, .int 0])), (m124, .inl (cI40, 1200, .inl f041))]) (w1 := []) hP hD [0] [1, 2, 3, 4, 5, 6, 7, 8, 9] rfl rfl (by decide) (by decide) hk1 hFc hP1 hD1
  have hK := (hK.sub (tys' := [(cA20, .byte), (cI40, .int)]) [0, 1] rfl).app hK1
  generalize H1 = H at hP hS ⊢
  have hP : va_P (dC, dI) vwCl [(a13, .inr (0, [.ref ya8, .int 0])), (ya8, .inl (cA20, 1200, .inl f021)), (a24, .inr (3, [.ref b29, .ref t110, .ref t211, .ref t312, .int 0])), (b29, .inr (0, [.ref yb13, .int 0])), (a35, .inr (1, [.ref h114, .ref h215, .ref h316, .int 0, .int 0, .int 0])), (a57, .inr (5, [.ref h417, .ref b518, .int 0])), (b518, .inr (0, [.ref yc19, .int 0])), (q22, .inr (7, [.int 0, .ref m124, .int 0, .int (-1), .int 0, .int 0, .int 0, .ref m225, .int 0, .int 0, .ref m326, .ref m427, .ref m528, .ref m629, .ref m730, .ref m831, .ref m932, .int 0, .ref m1033, .ref m1134, .ref m1235, .int 0, .ref m1336, .ref m1437, .ref m1538, .int 0, .ref m1639, .int 0, .int 0])), (m124, .inl (cI40, 1200, .inl f041))] H := hP
  have hD : va_D (fun q : Nat => s.heap.size ≤ q) [(a13, .inr (0, [.ref ya8, .int 0])), (ya8, .inl (cA20, 1200, .inl f021)), (a24, .inr (3, [.ref b29, .ref t110, .ref t211, .ref t312, .int 0])), (b29, .inr (0, [.ref yb13, .int 0])), (a35, .inr (1, [.ref h114, .ref h215, .ref h316, .int 0, .int 0, .int 0])), (a57, .inr (5, [.ref h417, .ref b518, .int 0])), (b518, .inr (0, [.ref yc19, .int 0])), (q22, .inr (7, [.int 0, .ref m124, .int 0, .int (-1), .int 0, .int 0, .int 0, .ref m225, .int 0, .int 0, .ref m326, .ref m427, .ref m528, .ref m629, .ref m730, .ref m831, .ref m932, .int 0, .ref m1033, .ref m1134, .ref m1235, .int 0, .ref m1336, .ref m1437, .ref m1538, .int 0, .ref m1639, .int 0, .int 0])), (m124, .inl (cI40, 1200, .inl f041))] := hD
  have hK : va_K (dC, dI) vwCl [(cA20, .byte), (cI40, .int)] s := hK
  have hw : r1 = (-4) := hw
  subst hw
  refine lv_aload_n hx hb dL_law_327 rfl (lv_at hl 1 rfl) ?_
  refine lv_aload_n hx hb dL_law_328 rfl (lv_at hl 3 rfl) ?_
  refine lv_iload_n hx hb dL_law_329 rfl (lv_at hl 0 rfl) ?_
  refine lv_iconst (v := 1) hx hb dL_law_330 (by decide) ?_
  refine lv_iadd hx hb dL_law_331 ?_
  refine pf_top (y := 1) (by decide) ?_
  refine va_sld hx hb hX hbl hbA hS pf_i1 dL_law_332 ?_
  refine lv_aload_n hx hb dL_law_333 rfl (lv_at hl 3 rfl) ?_
  refine lv_iload_n hx hb dL_law_334 rfl (lv_at hl 0 rfl) ?_
  refine lv_iconst (v := 2) hx hb dL_law_335 (by decide) ?_
  refine lv_iadd hx hb dL_law_336 ?_
  refine pf_top (y := 2) (by decide) ?_
  refine va_sld hx hb hX hbl hbA hS pf_i2 dL_law_337 ?_
  have hPc := hP.sub (ws' := [(q22, .inr (7, [.int 0, .ref m124, .int 0, .int (-1), .int 0, .int 0, .int 0, .ref m225, .int 0, .int 0, .ref m326, .ref m427, .ref m528, .ref m629, .ref m730, .ref m831, .ref m932, .int 0, .ref m1033, .ref m1134, .ref m1235, .int 0, .ref m1336, .ref m1437, .ref m1538, .int 0, .ref m1639, .int 0, .int 0]))]) [7] rfl
  have hDc := hD.sub (ws' := [(q22, .inr (7, [.int 0, .ref m124, .int 0, .int (-1), .int 0, .int 0, .int 0, .ref m225, .int 0, .int 0, .ref m326, .ref m427, .ref m528, .ref m629, .ref m730, .ref m831, .ref m932, .int 0, .ref m1033, .ref m1134, .ref m1235, .int 0, .ref m1336, .ref m1437, .ref m1538, .int 0, .ref m1639, .int 0, .int 0]))]) [7] (by decide) rfl
  have hKc := hK.sub (tys' := []) [] rfl
  have hFc := va_free (wc := [(q22, .inr (7, [.int 0, .ref m124, .int 0, .int (-1), .int 0, .int 0, .int 0, .ref m225, .int 0, .int 0, .ref m326, .ref m427, .ref m528, .ref m629, .ref m730, .ref m831, .ref m932, .int 0, .ref m1033, .ref m1134, .ref m1235, .int 0, .ref m1336, .ref m1437, .ref m1538, .int 0, .ref m1639, .int 0, .int 0]))]) hD hS hA [7] rfl
  refine va_calli (va_runV (As := [.int (xs (1 : Int32).toNatClampNeg), .int (xs (2 : Int32).toNatClampNeg)]) (rest := [.int (-4)]) ⟨hx, hb, hml, hown, hts⟩ (c_X7_setOf l dC dI H.size q22 m124 m225 m326 m427 m528 m629 m730 m831 m932 m1033 m1134 m1235 m1336 m1437 m1538 m1639 (xs (1 : Int32).toNatClampNeg) (xs (2 : Int32).toNatClampNeg)) (cwV 2 hts gg_RL_50 rfl rfl rfl (by decide +kernel) ⟨Nat.le_of_ble_eq_true rfl, Nat.le_of_ble_eq_true rfl⟩) ⟨fun a U g mk q => by obtain ⟨q0, q1, qP, qK, qD⟩ := q; exact ⟨q0, q1, qP, va_K.moved (u := U) (U := U.calling g mk a) (Vm.Alike.refl U.vm) qK, qD⟩, va_recv hK hP (ci := 7) (q0 := 7) rfl rfl, fun U hU hW => ⟨rfl, by rw [hU], by rw [hU]; exact hPc, va_K.moved hW.alike hKc, hDc.weaken (fun _ _ _ _ => trivial)⟩⟩ rfl rfl hl.1 rfl (lv_room (Nat.le_of_ble_eq_true rfl)) dL_law_338 ⟨Nat.le_of_ble_eq_true rfl, Nat.le_of_ble_eq_true rfl⟩) hS (fun q _ h => hFc q h) hFc (fun r2 u t H1 locs ht hvm hw hB hz1 hk1 hS => ?_)
  obtain ⟨hP1, hK1, hD1⟩ := hB
  rw [ht] at hP1
  have hK1 := va_K.moved hvm.symm hK1
  obtain ⟨hP, hD⟩ := va_join (wr := [(a13, .inr (0, [.ref ya8, .int 0])), (ya8, .inl (cA20, 1200, .inl f021)), (a24, .inr (3, [.ref b29, .ref t110, .ref t211, .ref t312, .int 0])), (b29, .inr (0, [.ref yb13, .int 0])), (a35, .inr (1, [.ref h114, .ref h215, .ref h316, .int 0, .int 0, .int 0])), (a57, .inr (5, [.ref h417, .ref b518, .int 0])), (b518, .inr (0, [.ref yc19, .int 0])), (m124, .inl (cI40, 1200, .inl f041))]) (w1 := []) hP hD [7] [0, 1, 2, 3, 4, 5, 6, 8] rfl rfl (by decide) (by decide) hk1 hFc hP1 hD1
  have hK := (hK.sub (tys' := [(cA20, .byte), (cI40, .int)]) [0, 1] rfl).app hK1
  generalize H1 = H at hP hS ⊢
  have hP : va_P (dC, dI) vwCl [(a13, .inr (0, [.ref ya8, .int 0])), (ya8, .inl (cA20, 1200, .inl f021)), (a24, .inr (3, [.ref b29, .ref t110, .ref t211, .ref t312, .int 0])), (b29, .inr (0, [.ref yb13, .int 0])), (a35, .inr (1, [.ref h114, .ref h215, .ref h316, .int 0, .int 0, .int 0])), (a57, .inr (5, [.ref h417, .ref b518, .int 0])), (b518, .inr (0, [.ref yc19, .int 0])), (m124, .inl (cI40, 1200, .inl f041))] H := hP
  have hD : va_D (fun q : Nat => s.heap.size ≤ q) [(a13, .inr (0, [.ref ya8, .int 0])), (ya8, .inl (cA20, 1200, .inl f021)), (a24, .inr (3, [.ref b29, .ref t110, .ref t211, .ref t312, .int 0])), (b29, .inr (0, [.ref yb13, .int 0])), (a35, .inr (1, [.ref h114, .ref h215, .ref h316, .int 0, .int 0, .int 0])), (a57, .inr (5, [.ref h417, .ref b518, .int 0])), (b518, .inr (0, [.ref yc19, .int 0])), (m124, .inl (cI40, 1200, .inl f041))] := hD
  have hK : va_K (dC, dI) vwCl [(cA20, .byte), (cI40, .int)] s := hK
  have hw : r2 = (-4) := hw
  subst hw
  refine lv_icmp_eq (tgt := 600) hx hb dL_law_341 (by decide) (fun c_341 => ?_) (fun c_341 => absurd (rfl) c_341)
  exact law_end C0 hS (lv_sub hl [3, 0] rfl)

set_option maxHeartbeats 4000000 in
set_option maxRecDepth 100000 in
theorem law_fault {p : Program} {l : Launch} {e : Env} {s : State} {m : MethodId} {below : List Frame} {meth : Method} {c : Code} {b : Nat} {xs : Nat → Int32} (C0 : lw_At p s m meth c b 4 xs) {dC : Nat → ClassId} {dI : Nat → Nat → Nat} {q1 a13 a24 a35 a46 a57 ya8 b29 t110 t211 t312 yb13 h114 h215 h316 h417 b518 yc19 q22 m124 m225 m326 m427 m528 m629 m730 m831 m932 m1033 m1134 m1235 m1336 m1437 m1538 m1639 : Nat} {cA20 cI40 : ClassId} {f021 f041 : Nat → Int32} {H : Heap} {locs : List Loc} (hK : va_K (dC, dI) vwCl [(cA20, .byte), (cI40, .int)] s) (hP : va_P (dC, dI) vwCl [(q1, .inr (6, [.ref a13, .ref a24, .ref a35, .ref a46, .ref a57, .int (-1), .int 0])), (a13, .inr (0, [.ref ya8, .int 0])), (ya8, .inl (cA20, 1200, .inl f021)), (a24, .inr (3, [.ref b29, .ref t110, .ref t211, .ref t312, .int 0])), (b29, .inr (0, [.ref yb13, .int 0])), (a35, .inr (1, [.ref h114, .ref h215, .ref h316, .int 0, .int 0, .int 0])), (a57, .inr (5, [.ref h417, .ref b518, .int 0])), (b518, .inr (0, [.ref yc19, .int 0])), (q22, .inr (7, [.int 0, .ref m124, .int 0, .int (-1), .int 0, .int 0, .int 0, .ref m225, .int 0, .int 0, .ref m326, .ref m427, .ref m528, .ref m629, .ref m730, .ref m831, .ref m932, .int 0, .ref m1033, .ref m1134, .ref m1235, .int 0, .ref m1336, .ref m1437, .ref m1538, .int 0, .ref m1639, .int 0, .int 0])), (m124, .inl (cI40, 1200, .inl f041))] H) (hD : va_D (fun q : Nat => s.heap.size ≤ q) [(q1, .inr (6, [.ref a13, .ref a24, .ref a35, .ref a46, .ref a57, .int (-1), .int 0])), (a13, .inr (0, [.ref ya8, .int 0])), (ya8, .inl (cA20, 1200, .inl f021)), (a24, .inr (3, [.ref b29, .ref t110, .ref t211, .ref t312, .int 0])), (b29, .inr (0, [.ref yb13, .int 0])), (a35, .inr (1, [.ref h114, .ref h215, .ref h316, .int 0, .int 0, .int 0])), (a57, .inr (5, [.ref h417, .ref b518, .int 0])), (b518, .inr (0, [.ref yc19, .int 0])), (q22, .inr (7, [.int 0, .ref m124, .int 0, .int (-1), .int 0, .int 0, .int 0, .ref m225, .int 0, .int 0, .ref m326, .ref m427, .ref m528, .ref m629, .ref m730, .ref m831, .ref m932, .int 0, .ref m1033, .ref m1134, .ref m1235, .int 0, .ref m1336, .ref m1437, .ref m1538, .int 0, .ref m1639, .int 0, .int 0])), (m124, .inl (cI40, 1200, .inl f041))]) (hS : va_S (fun q : Nat => s.heap.size ≤ q) s.heap H locs) {ls : Array Slot} (hl : lv_has ls 4 [(3, .int 0), (2, .ref q22), (1, .ref q1), (0, .ref b)]) : W p l e room_1 s m #[Value.ref b] below meth c H locs 40 14459 (lw_Z below #[Value.ref b] s) (F0 m 346 ls []) := by
  obtain ⟨hx, hb, hr, hml, hown0, hts0, hX, hbl, hlocks, hgv⟩ := id C0
  have hown : s.vm.findClass RL = some m.cls := hown0
  have hts : ∀ w ∈ pwAll, w.before #[Value.ref b] s = true := fun w h => hts0 w (pwAll_in w h)
  have hA : ∀ q : Nat, s.heap.size ≤ q → (fun q : Nat => s.heap.size ≤ q) q := fun _ h => h
  have hbA : ¬ (fun q : Nat => s.heap.size ≤ q) b := Nat.not_le.mpr hbl
  refine lv_aload_n hx hb dL_law_346 rfl (lv_at hl 2 rfl) ?_
  refine lv_aload_n hx hb dL_law_347 rfl (lv_at hl 3 rfl) ?_
  refine lv_iload_n hx hb dL_law_348 rfl (lv_at hl 0 rfl) ?_
  refine lv_iconst (v := 1) hx hb dL_law_349 (by decide) ?_
  refine lv_iadd hx hb dL_law_350 ?_
  refine pf_top (y := 1) (by decide) ?_
  refine va_sld hx hb hX hbl hbA hS pf_i1 dL_law_351 ?_
  refine lv_aload_n hx hb dL_law_352 rfl (lv_at hl 3 rfl) ?_
  refine lv_iload_n hx hb dL_law_353 rfl (lv_at hl 0 rfl) ?_
  refine lv_iconst (v := 2) hx hb dL_law_354 (by decide) ?_
  refine lv_iadd hx hb dL_law_355 ?_
  refine pf_top (y := 2) (by decide) ?_
  refine va_sld hx hb hX hbl hbA hS pf_i2 dL_law_356 ?_
  refine lv_aload_n hx hb dL_law_357 rfl (lv_at hl 3 rfl) ?_
  refine lv_iload_n hx hb dL_law_358 rfl (lv_at hl 0 rfl) ?_
  refine lv_iconst (v := 3) hx hb dL_law_359 (by decide) ?_
  refine lv_iadd hx hb dL_law_360 ?_
  refine pf_top (y := 3) (by decide) ?_
  refine va_sld hx hb hX hbl hbA hS pf_i3 dL_law_361 ?_
  have hPc := hP.sub (ws' := [(q1, .inr (6, [.ref a13, .ref a24, .ref a35, .ref a46, .ref a57, .int (-1), .int 0]))]) [0] rfl
  have hDc := hD.sub (ws' := [(q1, .inr (6, [.ref a13, .ref a24, .ref a35, .ref a46, .ref a57, .int (-1), .int 0]))]) [0] (by decide) rfl
  have hKc := hK.sub (tys' := []) [] rfl
  have hFc := va_free (wc := [(q1, .inr (6, [.ref a13, .ref a24, .ref a35, .ref a46, .ref a57, .int (-1), .int 0]))]) hD hS hA [0] rfl
  refine va_calli (va_runV (As := [.int (xs (1 : Int32).toNatClampNeg), .int (xs (2 : Int32).toNatClampNeg), .int (xs (3 : Int32).toNatClampNeg)]) (rest := []) ⟨hx, hb, hml, hown, hts⟩ (c_X6_fault l dC dI H.size q1 a13 a24 a35 a46 a57 (xs (1 : Int32).toNatClampNeg) (xs (2 : Int32).toNatClampNeg) (xs (3 : Int32).toNatClampNeg)) (cwV 3 hts gg_RL_51 rfl rfl rfl (by decide +kernel) ⟨Nat.le_of_ble_eq_true rfl, Nat.le_of_ble_eq_true rfl⟩) ⟨fun a U g mk q => by obtain ⟨q0, q1, qP, qK, qD⟩ := q; exact ⟨q0, q1, qP, va_K.moved (u := U) (U := U.calling g mk a) (Vm.Alike.refl U.vm) qK, qD⟩, va_recv hK hP (ci := 6) (q0 := 0) rfl rfl, fun U hU hW => ⟨rfl, by rw [hU], by rw [hU]; exact hPc, va_K.moved hW.alike hKc, hDc.weaken (fun _ _ _ _ => trivial)⟩⟩ rfl rfl hl.1 rfl (lv_room (Nat.le_of_ble_eq_true rfl)) dL_law_362 ⟨Nat.le_of_ble_eq_true rfl, Nat.le_of_ble_eq_true rfl⟩) hS (fun q _ h => hFc q h) hFc (fun r1 u t H1 locs ht hvm hw hB hz1 hk1 hS => ?_)
  obtain ⟨hP1, hK1, hD1⟩ := hB
  rw [ht] at hP1
  have hK1 := va_K.moved hvm.symm hK1
  obtain ⟨hP, hD⟩ := va_join (wr := [(a13, .inr (0, [.ref ya8, .int 0])), (ya8, .inl (cA20, 1200, .inl f021)), (a24, .inr (3, [.ref b29, .ref t110, .ref t211, .ref t312, .int 0])), (b29, .inr (0, [.ref yb13, .int 0])), (a35, .inr (1, [.ref h114, .ref h215, .ref h316, .int 0, .int 0, .int 0])), (a57, .inr (5, [.ref h417, .ref b518, .int 0])), (b518, .inr (0, [.ref yc19, .int 0])), (q22, .inr (7, [.int 0, .ref m124, .int 0, .int (-1), .int 0, .int 0, .int 0, .ref m225, .int 0, .int 0, .ref m326, .ref m427, .ref m528, .ref m629, .ref m730, .ref m831, .ref m932, .int 0, .ref m1033, .ref m1134, .ref m1235, .int 0, .ref m1336, .ref m1437, .ref m1538, .int 0, .ref m1639, .int 0, .int 0])), (m124, .inl (cI40, 1200, .inl f041))]) (w1 := []) hP hD [0] [1, 2, 3, 4, 5, 6, 7, 8, 9] rfl rfl (by decide) (by decide) hk1 hFc hP1 hD1
  have hK := (hK.sub (tys' := [(cA20, .byte), (cI40, .int)]) [0, 1] rfl).app hK1
  generalize H1 = H at hP hS ⊢
  have hP : va_P (dC, dI) vwCl [(a13, .inr (0, [.ref ya8, .int 0])), (ya8, .inl (cA20, 1200, .inl f021)), (a24, .inr (3, [.ref b29, .ref t110, .ref t211, .ref t312, .int 0])), (b29, .inr (0, [.ref yb13, .int 0])), (a35, .inr (1, [.ref h114, .ref h215, .ref h316, .int 0, .int 0, .int 0])), (a57, .inr (5, [.ref h417, .ref b518, .int 0])), (b518, .inr (0, [.ref yc19, .int 0])), (q22, .inr (7, [.int 0, .ref m124, .int 0, .int (-1), .int 0, .int 0, .int 0, .ref m225, .int 0, .int 0, .ref m326, .ref m427, .ref m528, .ref m629, .ref m730, .ref m831, .ref m932, .int 0, .ref m1033, .ref m1134, .ref m1235, .int 0, .ref m1336, .ref m1437, .ref m1538, .int 0, .ref m1639, .int 0, .int 0])), (m124, .inl (cI40, 1200, .inl f041))] H := hP
  have hD : va_D (fun q : Nat => s.heap.size ≤ q) [(a13, .inr (0, [.ref ya8, .int 0])), (ya8, .inl (cA20, 1200, .inl f021)), (a24, .inr (3, [.ref b29, .ref t110, .ref t211, .ref t312, .int 0])), (b29, .inr (0, [.ref yb13, .int 0])), (a35, .inr (1, [.ref h114, .ref h215, .ref h316, .int 0, .int 0, .int 0])), (a57, .inr (5, [.ref h417, .ref b518, .int 0])), (b518, .inr (0, [.ref yc19, .int 0])), (q22, .inr (7, [.int 0, .ref m124, .int 0, .int (-1), .int 0, .int 0, .int 0, .ref m225, .int 0, .int 0, .ref m326, .ref m427, .ref m528, .ref m629, .ref m730, .ref m831, .ref m932, .int 0, .ref m1033, .ref m1134, .ref m1235, .int 0, .ref m1336, .ref m1437, .ref m1538, .int 0, .ref m1639, .int 0, .int 0])), (m124, .inl (cI40, 1200, .inl f041))] := hD
  have hK : va_K (dC, dI) vwCl [(cA20, .byte), (cI40, .int)] s := hK
  have hw : r1 = (-4) := hw
  subst hw
  refine lv_aload_n hx hb dL_law_365 rfl (lv_at hl 1 rfl) ?_
  refine lv_aload_n hx hb dL_law_366 rfl (lv_at hl 3 rfl) ?_
  refine lv_iload_n hx hb dL_law_367 rfl (lv_at hl 0 rfl) ?_
  refine lv_iconst (v := 1) hx hb dL_law_368 (by decide) ?_
  refine lv_iadd hx hb dL_law_369 ?_
  refine pf_top (y := 1) (by decide) ?_
  refine va_sld hx hb hX hbl hbA hS pf_i1 dL_law_370 ?_
  refine lv_aload_n hx hb dL_law_371 rfl (lv_at hl 3 rfl) ?_
  refine lv_iload_n hx hb dL_law_372 rfl (lv_at hl 0 rfl) ?_
  refine lv_iconst (v := 2) hx hb dL_law_373 (by decide) ?_
  refine lv_iadd hx hb dL_law_374 ?_
  refine pf_top (y := 2) (by decide) ?_
  refine va_sld hx hb hX hbl hbA hS pf_i2 dL_law_375 ?_
  refine lv_aload_n hx hb dL_law_376 rfl (lv_at hl 3 rfl) ?_
  refine lv_iload_n hx hb dL_law_377 rfl (lv_at hl 0 rfl) ?_
  refine lv_iconst (v := 3) hx hb dL_law_378 (by decide) ?_
  refine lv_iadd hx hb dL_law_379 ?_
  refine pf_top (y := 3) (by decide) ?_
  refine va_sld hx hb hX hbl hbA hS pf_i3 dL_law_380 ?_
  have hPc := hP.sub (ws' := [(q22, .inr (7, [.int 0, .ref m124, .int 0, .int (-1), .int 0, .int 0, .int 0, .ref m225, .int 0, .int 0, .ref m326, .ref m427, .ref m528, .ref m629, .ref m730, .ref m831, .ref m932, .int 0, .ref m1033, .ref m1134, .ref m1235, .int 0, .ref m1336, .ref m1437, .ref m1538, .int 0, .ref m1639, .int 0, .int 0]))]) [7] rfl
  have hDc := hD.sub (ws' := [(q22, .inr (7, [.int 0, .ref m124, .int 0, .int (-1), .int 0, .int 0, .int 0, .ref m225, .int 0, .int 0, .ref m326, .ref m427, .ref m528, .ref m629, .ref m730, .ref m831, .ref m932, .int 0, .ref m1033, .ref m1134, .ref m1235, .int 0, .ref m1336, .ref m1437, .ref m1538, .int 0, .ref m1639, .int 0, .int 0]))]) [7] (by decide) rfl
  have hKc := hK.sub (tys' := []) [] rfl
  have hFc := va_free (wc := [(q22, .inr (7, [.int 0, .ref m124, .int 0, .int (-1), .int 0, .int 0, .int 0, .ref m225, .int 0, .int 0, .ref m326, .ref m427, .ref m528, .ref m629, .ref m730, .ref m831, .ref m932, .int 0, .ref m1033, .ref m1134, .ref m1235, .int 0, .ref m1336, .ref m1437, .ref m1538, .int 0, .ref m1639, .int 0, .int 0]))]) hD hS hA [7] rfl
  refine va_calli (va_runV (As := [.int (xs (1 : Int32).toNatClampNeg), .int (xs (2 : Int32).toNatClampNeg), .int (xs (3 : Int32).toNatClampNeg)]) (rest := [.int (-4)]) ⟨hx, hb, hml, hown, hts⟩ (c_X7_fault l dC dI H.size q22 m124 m225 m326 m427 m528 m629 m730 m831 m932 m1033 m1134 m1235 m1336 m1437 m1538 m1639 (xs (1 : Int32).toNatClampNeg) (xs (2 : Int32).toNatClampNeg) (xs (3 : Int32).toNatClampNeg)) (cwV 3 hts gg_RL_55 rfl rfl rfl (by decide +kernel) ⟨Nat.le_of_ble_eq_true rfl, Nat.le_of_ble_eq_true rfl⟩) ⟨fun a U g mk q => by obtain ⟨q0, q1, qP, qK, qD⟩ := q; exact ⟨q0, q1, qP, va_K.moved (u := U) (U := U.calling g mk a) (Vm.Alike.refl U.vm) qK, qD⟩, va_recv hK hP (ci := 7) (q0 := 7) rfl rfl, fun U hU hW => ⟨rfl, by rw [hU], by rw [hU]; exact hPc, va_K.moved hW.alike hKc, hDc.weaken (fun _ _ _ _ => trivial)⟩⟩ rfl rfl hl.1 rfl (lv_room (Nat.le_of_ble_eq_true rfl)) dL_law_381 ⟨Nat.le_of_ble_eq_true rfl, Nat.le_of_ble_eq_true rfl⟩) hS (fun q _ h => hFc q h) hFc (fun r2 u t H1 locs ht hvm hw hB hz1 hk1 hS => ?_)
  obtain ⟨hP1, hK1, hD1⟩ := hB
  rw [ht] at hP1
  have hK1 := va_K.moved hvm.symm hK1
  obtain ⟨hP, hD⟩ := va_join (wr := [(a13, .inr (0, [.ref ya8, .int 0])), (ya8, .inl (cA20, 1200, .inl f021)), (a24, .inr (3, [.ref b29, .ref t110, .ref t211, .ref t312, .int 0])), (b29, .inr (0, [.ref yb13, .int 0])), (a35, .inr (1, [.ref h114, .ref h215, .ref h316, .int 0, .int 0, .int 0])), (a57, .inr (5, [.ref h417, .ref b518, .int 0])), (b518, .inr (0, [.ref yc19, .int 0])), (m124, .inl (cI40, 1200, .inl f041))]) (w1 := []) hP hD [7] [0, 1, 2, 3, 4, 5, 6, 8] rfl rfl (by decide) (by decide) hk1 hFc hP1 hD1
  have hK := (hK.sub (tys' := [(cA20, .byte), (cI40, .int)]) [0, 1] rfl).app hK1
  generalize H1 = H at hP hS ⊢
  have hP : va_P (dC, dI) vwCl [(a13, .inr (0, [.ref ya8, .int 0])), (ya8, .inl (cA20, 1200, .inl f021)), (a24, .inr (3, [.ref b29, .ref t110, .ref t211, .ref t312, .int 0])), (b29, .inr (0, [.ref yb13, .int 0])), (a35, .inr (1, [.ref h114, .ref h215, .ref h316, .int 0, .int 0, .int 0])), (a57, .inr (5, [.ref h417, .ref b518, .int 0])), (b518, .inr (0, [.ref yc19, .int 0])), (m124, .inl (cI40, 1200, .inl f041))] H := hP
  have hD : va_D (fun q : Nat => s.heap.size ≤ q) [(a13, .inr (0, [.ref ya8, .int 0])), (ya8, .inl (cA20, 1200, .inl f021)), (a24, .inr (3, [.ref b29, .ref t110, .ref t211, .ref t312, .int 0])), (b29, .inr (0, [.ref yb13, .int 0])), (a35, .inr (1, [.ref h114, .ref h215, .ref h316, .int 0, .int 0, .int 0])), (a57, .inr (5, [.ref h417, .ref b518, .int 0])), (b518, .inr (0, [.ref yc19, .int 0])), (m124, .inl (cI40, 1200, .inl f041))] := hD
  have hK : va_K (dC, dI) vwCl [(cA20, .byte), (cI40, .int)] s := hK
  have hw : r2 = (-4) := hw
  subst hw
  refine lv_icmp_eq (tgt := 600) hx hb dL_law_384 (by decide) (fun c_384 => ?_) (fun c_384 => absurd (rfl) c_384)
  exact law_end C0 hS (lv_sub hl [3, 0] rfl)

set_option maxHeartbeats 4000000 in
set_option maxRecDepth 100000 in
theorem law_level {p : Program} {l : Launch} {e : Env} {s : State} {m : MethodId} {below : List Frame} {meth : Method} {c : Code} {b : Nat} {xs : Nat → Int32} (C0 : lw_At p s m meth c b 4 xs) {dC : Nat → ClassId} {dI : Nat → Nat → Nat} {q1 a13 a24 a35 a46 a57 ya8 b29 t110 t211 t312 yb13 h114 h215 h316 h417 b518 yc19 q22 m124 m225 m326 m427 m528 m629 m730 m831 m932 m1033 m1134 m1235 m1336 m1437 m1538 m1639 : Nat} {cA20 cI40 : ClassId} {f021 f041 : Nat → Int32} {H : Heap} {locs : List Loc} (hK : va_K (dC, dI) vwCl [(cA20, .byte), (cI40, .int)] s) (hP : va_P (dC, dI) vwCl [(q1, .inr (6, [.ref a13, .ref a24, .ref a35, .ref a46, .ref a57, .int (-1), .int 0])), (a13, .inr (0, [.ref ya8, .int 0])), (ya8, .inl (cA20, 1200, .inl f021)), (a24, .inr (3, [.ref b29, .ref t110, .ref t211, .ref t312, .int 0])), (b29, .inr (0, [.ref yb13, .int 0])), (a35, .inr (1, [.ref h114, .ref h215, .ref h316, .int 0, .int 0, .int 0])), (a57, .inr (5, [.ref h417, .ref b518, .int 0])), (b518, .inr (0, [.ref yc19, .int 0])), (q22, .inr (7, [.int 0, .ref m124, .int 0, .int (-1), .int 0, .int 0, .int 0, .ref m225, .int 0, .int 0, .ref m326, .ref m427, .ref m528, .ref m629, .ref m730, .ref m831, .ref m932, .int 0, .ref m1033, .ref m1134, .ref m1235, .int 0, .ref m1336, .ref m1437, .ref m1538, .int 0, .ref m1639, .int 0, .int 0])), (m124, .inl (cI40, 1200, .inl f041))] H) (hD : va_D (fun q : Nat => s.heap.size ≤ q) [(q1, .inr (6, [.ref a13, .ref a24, .ref a35, .ref a46, .ref a57, .int (-1), .int 0])), (a13, .inr (0, [.ref ya8, .int 0])), (ya8, .inl (cA20, 1200, .inl f021)), (a24, .inr (3, [.ref b29, .ref t110, .ref t211, .ref t312, .int 0])), (b29, .inr (0, [.ref yb13, .int 0])), (a35, .inr (1, [.ref h114, .ref h215, .ref h316, .int 0, .int 0, .int 0])), (a57, .inr (5, [.ref h417, .ref b518, .int 0])), (b518, .inr (0, [.ref yc19, .int 0])), (q22, .inr (7, [.int 0, .ref m124, .int 0, .int (-1), .int 0, .int 0, .int 0, .ref m225, .int 0, .int 0, .ref m326, .ref m427, .ref m528, .ref m629, .ref m730, .ref m831, .ref m932, .int 0, .ref m1033, .ref m1134, .ref m1235, .int 0, .ref m1336, .ref m1437, .ref m1538, .int 0, .ref m1639, .int 0, .int 0])), (m124, .inl (cI40, 1200, .inl f041))]) (hS : va_S (fun q : Nat => s.heap.size ≤ q) s.heap H locs) {ls : Array Slot} (hl : lv_has ls 4 [(3, .int 0), (2, .ref q22), (1, .ref q1), (0, .ref b)]) : W p l e room_1 s m #[Value.ref b] below meth c H locs 40 14459 (lw_Z below #[Value.ref b] s) (F0 m 389 ls []) := by
  obtain ⟨hx, hb, hr, hml, hown0, hts0, hX, hbl, hlocks, hgv⟩ := id C0
  have hown : s.vm.findClass RL = some m.cls := hown0
  have hts : ∀ w ∈ pwAll, w.before #[Value.ref b] s = true := fun w h => hts0 w (pwAll_in w h)
  have hA : ∀ q : Nat, s.heap.size ≤ q → (fun q : Nat => s.heap.size ≤ q) q := fun _ h => h
  have hbA : ¬ (fun q : Nat => s.heap.size ≤ q) b := Nat.not_le.mpr hbl
  refine lv_aload_n hx hb dL_law_389 rfl (lv_at hl 2 rfl) ?_
  refine lv_aload_n hx hb dL_law_390 rfl (lv_at hl 3 rfl) ?_
  refine lv_iload_n hx hb dL_law_391 rfl (lv_at hl 0 rfl) ?_
  refine lv_iconst (v := 1) hx hb dL_law_392 (by decide) ?_
  refine lv_iadd hx hb dL_law_393 ?_
  refine pf_top (y := 1) (by decide) ?_
  refine va_sld hx hb hX hbl hbA hS pf_i1 dL_law_394 ?_
  refine lv_aload_n hx hb dL_law_395 rfl (lv_at hl 3 rfl) ?_
  refine lv_iload_n hx hb dL_law_396 rfl (lv_at hl 0 rfl) ?_
  refine lv_iconst (v := 2) hx hb dL_law_397 (by decide) ?_
  refine lv_iadd hx hb dL_law_398 ?_
  refine pf_top (y := 2) (by decide) ?_
  refine va_sld hx hb hX hbl hbA hS pf_i2 dL_law_399 ?_
  refine lv_aload_n hx hb dL_law_400 rfl (lv_at hl 3 rfl) ?_
  refine lv_iload_n hx hb dL_law_401 rfl (lv_at hl 0 rfl) ?_
  refine lv_iconst (v := 3) hx hb dL_law_402 (by decide) ?_
  refine lv_iadd hx hb dL_law_403 ?_
  refine pf_top (y := 3) (by decide) ?_
  refine va_sld hx hb hX hbl hbA hS pf_i3 dL_law_404 ?_
  have hPc := hP.sub (ws' := [(q1, .inr (6, [.ref a13, .ref a24, .ref a35, .ref a46, .ref a57, .int (-1), .int 0]))]) [0] rfl
  have hDc := hD.sub (ws' := [(q1, .inr (6, [.ref a13, .ref a24, .ref a35, .ref a46, .ref a57, .int (-1), .int 0]))]) [0] (by decide) rfl
  have hKc := hK.sub (tys' := []) [] rfl
  have hFc := va_free (wc := [(q1, .inr (6, [.ref a13, .ref a24, .ref a35, .ref a46, .ref a57, .int (-1), .int 0]))]) hD hS hA [0] rfl
  refine va_calli (va_runV (As := [.int (xs (1 : Int32).toNatClampNeg), .int (xs (2 : Int32).toNatClampNeg), .int (xs (3 : Int32).toNatClampNeg)]) (rest := []) ⟨hx, hb, hml, hown, hts⟩ (c_X6_level l dC dI H.size q1 a13 a24 a35 a46 a57 (xs (1 : Int32).toNatClampNeg) (xs (2 : Int32).toNatClampNeg) (xs (3 : Int32).toNatClampNeg)) (cwV 3 hts gg_RL_56 rfl rfl rfl (by decide +kernel) ⟨Nat.le_of_ble_eq_true rfl, Nat.le_of_ble_eq_true rfl⟩) ⟨fun a U g mk q => by obtain ⟨q0, q1, qP, qK, qD⟩ := q; exact ⟨q0, q1, qP, va_K.moved (u := U) (U := U.calling g mk a) (Vm.Alike.refl U.vm) qK, qD⟩, va_recv hK hP (ci := 6) (q0 := 0) rfl rfl, fun U hU hW => ⟨rfl, by rw [hU], by rw [hU]; exact hPc, va_K.moved hW.alike hKc, hDc.weaken (fun _ _ _ _ => trivial)⟩⟩ rfl rfl hl.1 rfl (lv_room (Nat.le_of_ble_eq_true rfl)) dL_law_405 ⟨Nat.le_of_ble_eq_true rfl, Nat.le_of_ble_eq_true rfl⟩) hS (fun q _ h => hFc q h) hFc (fun r1 u t H1 locs ht hvm hw hB hz1 hk1 hS => ?_)
  obtain ⟨hP1, hK1, hD1⟩ := hB
  rw [ht] at hP1
  have hK1 := va_K.moved hvm.symm hK1
  obtain ⟨hP, hD⟩ := va_join (wr := [(a13, .inr (0, [.ref ya8, .int 0])), (ya8, .inl (cA20, 1200, .inl f021)), (a24, .inr (3, [.ref b29, .ref t110, .ref t211, .ref t312, .int 0])), (b29, .inr (0, [.ref yb13, .int 0])), (a35, .inr (1, [.ref h114, .ref h215, .ref h316, .int 0, .int 0, .int 0])), (a57, .inr (5, [.ref h417, .ref b518, .int 0])), (b518, .inr (0, [.ref yc19, .int 0])), (q22, .inr (7, [.int 0, .ref m124, .int 0, .int (-1), .int 0, .int 0, .int 0, .ref m225, .int 0, .int 0, .ref m326, .ref m427, .ref m528, .ref m629, .ref m730, .ref m831, .ref m932, .int 0, .ref m1033, .ref m1134, .ref m1235, .int 0, .ref m1336, .ref m1437, .ref m1538, .int 0, .ref m1639, .int 0, .int 0])), (m124, .inl (cI40, 1200, .inl f041))]) (w1 := []) hP hD [0] [1, 2, 3, 4, 5, 6, 7, 8, 9] rfl rfl (by decide) (by decide) hk1 hFc hP1 hD1
  have hK := (hK.sub (tys' := [(cA20, .byte), (cI40, .int)]) [0, 1] rfl).app hK1
  generalize H1 = H at hP hS ⊢
  have hP : va_P (dC, dI) vwCl [(a13, .inr (0, [.ref ya8, .int 0])), (ya8, .inl (cA20, 1200, .inl f021)), (a24, .inr (3, [.ref b29, .ref t110, .ref t211, .ref t312, .int 0])), (b29, .inr (0, [.ref yb13, .int 0])), (a35, .inr (1, [.ref h114, .ref h215, .ref h316, .int 0, .int 0, .int 0])), (a57, .inr (5, [.ref h417, .ref b518, .int 0])), (b518, .inr (0, [.ref yc19, .int 0])), (q22, .inr (7, [.int 0, .ref m124, .int 0, .int (-1), .int 0, .int 0, .int 0, .ref m225, .int 0, .int 0, .ref m326, .ref m427, .ref m528, .ref m629, .ref m730, .ref m831, .ref m932, .int 0, .ref m1033, .ref m1134, .ref m1235, .int 0, .ref m1336, .ref m1437, .ref m1538, .int 0, .ref m1639, .int 0, .int 0])), (m124, .inl (cI40, 1200, .inl f041))] H := hP
  have hD : va_D (fun q : Nat => s.heap.size ≤ q) [(a13, .inr (0, [.ref ya8, .int 0])), (ya8, .inl (cA20, 1200, .inl f021)), (a24, .inr (3, [.ref b29, .ref t110, .ref t211, .ref t312, .int 0])), (b29, .inr (0, [.ref yb13, .int 0])), (a35, .inr (1, [.ref h114, .ref h215, .ref h316, .int 0, .int 0, .int 0])), (a57, .inr (5, [.ref h417, .ref b518, .int 0])), (b518, .inr (0, [.ref yc19, .int 0])), (q22, .inr (7, [.int 0, .ref m124, .int 0, .int (-1), .int 0, .int 0, .int 0, .ref m225, .int 0, .int 0, .ref m326, .ref m427, .ref m528, .ref m629, .ref m730, .ref m831, .ref m932, .int 0, .ref m1033, .ref m1134, .ref m1235, .int 0, .ref m1336, .ref m1437, .ref m1538, .int 0, .ref m1639, .int 0, .int 0])), (m124, .inl (cI40, 1200, .inl f041))] := hD
  have hK : va_K (dC, dI) vwCl [(cA20, .byte), (cI40, .int)] s := hK
  have hw : r1 = (-4) := hw
  subst hw
  refine lv_aload_n hx hb dL_law_408 rfl (lv_at hl 1 rfl) ?_
  refine lv_aload_n hx hb dL_law_409 rfl (lv_at hl 3 rfl) ?_
  refine lv_iload_n hx hb dL_law_410 rfl (lv_at hl 0 rfl) ?_
  refine lv_iconst (v := 1) hx hb dL_law_411 (by decide) ?_
  refine lv_iadd hx hb dL_law_412 ?_
  refine pf_top (y := 1) (by decide) ?_
  refine va_sld hx hb hX hbl hbA hS pf_i1 dL_law_413 ?_
  refine lv_aload_n hx hb dL_law_414 rfl (lv_at hl 3 rfl) ?_
  refine lv_iload_n hx hb dL_law_415 rfl (lv_at hl 0 rfl) ?_
  refine lv_iconst (v := 2) hx hb dL_law_416 (by decide) ?_
  refine lv_iadd hx hb dL_law_417 ?_
  refine pf_top (y := 2) (by decide) ?_
  refine va_sld hx hb hX hbl hbA hS pf_i2 dL_law_418 ?_
  refine lv_aload_n hx hb dL_law_419 rfl (lv_at hl 3 rfl) ?_
  refine lv_iload_n hx hb dL_law_420 rfl (lv_at hl 0 rfl) ?_
  refine lv_iconst (v := 3) hx hb dL_law_421 (by decide) ?_
  refine lv_iadd hx hb dL_law_422 ?_
  refine pf_top (y := 3) (by decide) ?_
  refine va_sld hx hb hX hbl hbA hS pf_i3 dL_law_423 ?_
  have hPc := hP.sub (ws' := [(q22, .inr (7, [.int 0, .ref m124, .int 0, .int (-1), .int 0, .int 0, .int 0, .ref m225, .int 0, .int 0, .ref m326, .ref m427, .ref m528, .ref m629, .ref m730, .ref m831, .ref m932, .int 0, .ref m1033, .ref m1134, .ref m1235, .int 0, .ref m1336, .ref m1437, .ref m1538, .int 0, .ref m1639, .int 0, .int 0]))]) [7] rfl
  have hDc := hD.sub (ws' := [(q22, .inr (7, [.int 0, .ref m124, .int 0, .int (-1), .int 0, .int 0, .int 0, .ref m225, .int 0, .int 0, .ref m326, .ref m427, .ref m528, .ref m629, .ref m730, .ref m831, .ref m932, .int 0, .ref m1033, .ref m1134, .ref m1235, .int 0, .ref m1336, .ref m1437, .ref m1538, .int 0, .ref m1639, .int 0, .int 0]))]) [7] (by decide) rfl
  have hKc := hK.sub (tys' := []) [] rfl
  have hFc := va_free (wc := [(q22, .inr (7, [.int 0, .ref m124, .int 0, .int (-1), .int 0, .int 0, .int 0, .ref m225, .int 0, .int 0, .ref m326, .ref m427, .ref m528, .ref m629, .ref m730, .ref m831, .ref m932, .int 0, .ref m1033, .ref m1134, .ref m1235, .int 0, .ref m1336, .ref m1437, .ref m1538, .int 0, .ref m1639, .int 0, .int 0]))]) hD hS hA [7] rfl
  refine va_calli (va_runV (As := [.int (xs (1 : Int32).toNatClampNeg), .int (xs (2 : Int32).toNatClampNeg), .int (xs (3 : Int32).toNatClampNeg)]) (rest := [.int (-4)]) ⟨hx, hb, hml, hown, hts⟩ (c_X7_level l dC dI H.size q22 m124 m225 m326 m427 m528 m629 m730 m831 m932 m1033 m1134 m1235 m1336 m1437 m1538 m1639 (xs (1 : Int32).toNatClampNeg) (xs (2 : Int32).toNatClampNeg) (xs (3 : Int32).toNatClampNeg)) (cwV 3 hts gg_RL_59 rfl rfl rfl (by decide +kernel) ⟨Nat.le_of_ble_eq_true rfl, Nat.le_of_ble_eq_true rfl⟩) ⟨fun a U g mk q => by obtain ⟨q0, q1, qP, qK, qD⟩ := q; exact ⟨q0, q1, qP, va_K.moved (u := U) (U := U.calling g mk a) (Vm.Alike.refl U.vm) qK, qD⟩, va_recv hK hP (ci := 7) (q0 := 7) rfl rfl, fun U hU hW => ⟨rfl, by rw [hU], by rw [hU]; exact hPc, va_K.moved hW.alike hKc, hDc.weaken (fun _ _ _ _ => trivial)⟩⟩ rfl rfl hl.1 rfl (lv_room (Nat.le_of_ble_eq_true rfl)) dL_law_424 ⟨Nat.le_of_ble_eq_true rfl, Nat.le_of_ble_eq_true rfl⟩) hS (fun q _ h => hFc q h) hFc (fun r2 u t H1 locs ht hvm hw hB hz1 hk1 hS => ?_)
  obtain ⟨hP1, hK1, hD1⟩ := hB
  rw [ht] at hP1
  have hK1 := va_K.moved hvm.symm hK1
  obtain ⟨hP, hD⟩ := va_join (wr := [(a13, .inr (0, [.ref ya8, .int 0])), (ya8, .inl (cA20, 1200, .inl f021)), (a24, .inr (3, [.ref b29, .ref t110, .ref t211, .ref t312, .int 0])), (b29, .inr (0, [.ref yb13, .int 0])), (a35, .inr (1, [.ref h114, .ref h215, .ref h316, .int 0, .int 0, .int 0])), (a57, .inr (5, [.ref h417, .ref b518, .int 0])), (b518, .inr (0, [.ref yc19, .int 0])), (m124, .inl (cI40, 1200, .inl f041))]) (w1 := []) hP hD [7] [0, 1, 2, 3, 4, 5, 6, 8] rfl rfl (by decide) (by decide) hk1 hFc hP1 hD1
  have hK := (hK.sub (tys' := [(cA20, .byte), (cI40, .int)]) [0, 1] rfl).app hK1
  generalize H1 = H at hP hS ⊢
  have hP : va_P (dC, dI) vwCl [(a13, .inr (0, [.ref ya8, .int 0])), (ya8, .inl (cA20, 1200, .inl f021)), (a24, .inr (3, [.ref b29, .ref t110, .ref t211, .ref t312, .int 0])), (b29, .inr (0, [.ref yb13, .int 0])), (a35, .inr (1, [.ref h114, .ref h215, .ref h316, .int 0, .int 0, .int 0])), (a57, .inr (5, [.ref h417, .ref b518, .int 0])), (b518, .inr (0, [.ref yc19, .int 0])), (m124, .inl (cI40, 1200, .inl f041))] H := hP
  have hD : va_D (fun q : Nat => s.heap.size ≤ q) [(a13, .inr (0, [.ref ya8, .int 0])), (ya8, .inl (cA20, 1200, .inl f021)), (a24, .inr (3, [.ref b29, .ref t110, .ref t211, .ref t312, .int 0])), (b29, .inr (0, [.ref yb13, .int 0])), (a35, .inr (1, [.ref h114, .ref h215, .ref h316, .int 0, .int 0, .int 0])), (a57, .inr (5, [.ref h417, .ref b518, .int 0])), (b518, .inr (0, [.ref yc19, .int 0])), (m124, .inl (cI40, 1200, .inl f041))] := hD
  have hK : va_K (dC, dI) vwCl [(cA20, .byte), (cI40, .int)] s := hK
  have hw : r2 = (-4) := hw
  subst hw
  refine lv_icmp_eq (tgt := 600) hx hb dL_law_427 (by decide) (fun c_427 => ?_) (fun c_427 => absurd (rfl) c_427)
  exact law_end C0 hS (lv_sub hl [3, 0] rfl)

set_option maxHeartbeats 4000000 in
set_option maxRecDepth 100000 in
theorem law_claim {p : Program} {l : Launch} {e : Env} {s : State} {m : MethodId} {below : List Frame} {meth : Method} {c : Code} {b : Nat} {xs : Nat → Int32} (C0 : lw_At p s m meth c b 4 xs) {dC : Nat → ClassId} {dI : Nat → Nat → Nat} {q1 a13 a24 a35 a46 a57 ya8 b29 t110 t211 t312 yb13 h114 h215 h316 h417 b518 yc19 q22 m124 m225 m326 m427 m528 m629 m730 m831 m932 m1033 m1134 m1235 m1336 m1437 m1538 m1639 : Nat} {cA20 cI40 : ClassId} {f021 f041 : Nat → Int32} {H : Heap} {locs : List Loc} (hK : va_K (dC, dI) vwCl [(cA20, .byte), (cI40, .int)] s) (hP : va_P (dC, dI) vwCl [(q1, .inr (6, [.ref a13, .ref a24, .ref a35, .ref a46, .ref a57, .int (-1), .int 0])), (a13, .inr (0, [.ref ya8, .int 0])), (ya8, .inl (cA20, 1200, .inl f021)), (a24, .inr (3, [.ref b29, .ref t110, .ref t211, .ref t312, .int 0])), (b29, .inr (0, [.ref yb13, .int 0])), (a35, .inr (1, [.ref h114, .ref h215, .ref h316, .int 0, .int 0, .int 0])), (a57, .inr (5, [.ref h417, .ref b518, .int 0])), (b518, .inr (0, [.ref yc19, .int 0])), (q22, .inr (7, [.int 0, .ref m124, .int 0, .int (-1), .int 0, .int 0, .int 0, .ref m225, .int 0, .int 0, .ref m326, .ref m427, .ref m528, .ref m629, .ref m730, .ref m831, .ref m932, .int 0, .ref m1033, .ref m1134, .ref m1235, .int 0, .ref m1336, .ref m1437, .ref m1538, .int 0, .ref m1639, .int 0, .int 0])), (m124, .inl (cI40, 1200, .inl f041))] H) (hD : va_D (fun q : Nat => s.heap.size ≤ q) [(q1, .inr (6, [.ref a13, .ref a24, .ref a35, .ref a46, .ref a57, .int (-1), .int 0])), (a13, .inr (0, [.ref ya8, .int 0])), (ya8, .inl (cA20, 1200, .inl f021)), (a24, .inr (3, [.ref b29, .ref t110, .ref t211, .ref t312, .int 0])), (b29, .inr (0, [.ref yb13, .int 0])), (a35, .inr (1, [.ref h114, .ref h215, .ref h316, .int 0, .int 0, .int 0])), (a57, .inr (5, [.ref h417, .ref b518, .int 0])), (b518, .inr (0, [.ref yc19, .int 0])), (q22, .inr (7, [.int 0, .ref m124, .int 0, .int (-1), .int 0, .int 0, .int 0, .ref m225, .int 0, .int 0, .ref m326, .ref m427, .ref m528, .ref m629, .ref m730, .ref m831, .ref m932, .int 0, .ref m1033, .ref m1134, .ref m1235, .int 0, .ref m1336, .ref m1437, .ref m1538, .int 0, .ref m1639, .int 0, .int 0])), (m124, .inl (cI40, 1200, .inl f041))]) (hS : va_S (fun q : Nat => s.heap.size ≤ q) s.heap H locs) {ls : Array Slot} (hl : lv_has ls 4 [(3, .int 0), (2, .ref q22), (1, .ref q1), (0, .ref b)]) : W p l e room_1 s m #[Value.ref b] below meth c H locs 40 14459 (lw_Z below #[Value.ref b] s) (F0 m 432 ls []) := by
  obtain ⟨hx, hb, hr, hml, hown0, hts0, hX, hbl, hlocks, hgv⟩ := id C0
  have hown : s.vm.findClass RL = some m.cls := hown0
  have hts : ∀ w ∈ pwAll, w.before #[Value.ref b] s = true := fun w h => hts0 w (pwAll_in w h)
  have hA : ∀ q : Nat, s.heap.size ≤ q → (fun q : Nat => s.heap.size ≤ q) q := fun _ h => h
  have hbA : ¬ (fun q : Nat => s.heap.size ≤ q) b := Nat.not_le.mpr hbl
  refine lv_aload_n hx hb dL_law_432 rfl (lv_at hl 2 rfl) ?_
  refine lv_aload_n hx hb dL_law_433 rfl (lv_at hl 3 rfl) ?_
  refine lv_iload_n hx hb dL_law_434 rfl (lv_at hl 0 rfl) ?_
  refine lv_iconst (v := 1) hx hb dL_law_435 (by decide) ?_
  refine lv_iadd hx hb dL_law_436 ?_
  refine pf_top (y := 1) (by decide) ?_
  refine va_sld hx hb hX hbl hbA hS pf_i1 dL_law_437 ?_
  refine lv_aload_n hx hb dL_law_438 rfl (lv_at hl 3 rfl) ?_
  refine lv_iload_n hx hb dL_law_439 rfl (lv_at hl 0 rfl) ?_
  refine lv_iconst (v := 2) hx hb dL_law_440 (by decide) ?_
  refine lv_iadd hx hb dL_law_441 ?_
  refine pf_top (y := 2) (by decide) ?_
  refine va_sld hx hb hX hbl hbA hS pf_i2 dL_law_442 ?_
  refine lv_aload_n hx hb dL_law_443 rfl (lv_at hl 3 rfl) ?_
  refine lv_iload_n hx hb dL_law_444 rfl (lv_at hl 0 rfl) ?_
  refine lv_iconst (v := 3) hx hb dL_law_445 (by decide) ?_
  refine lv_iadd hx hb dL_law_446 ?_
  refine pf_top (y := 3) (by decide) ?_
  refine va_sld hx hb hX hbl hbA hS pf_i3 dL_law_447 ?_
  have hPc := hP.sub (ws' := [(q1, .inr (6, [.ref a13, .ref a24, .ref a35, .ref a46, .ref a57, .int (-1), .int 0]))]) [0] rfl
  have hDc := hD.sub (ws' := [(q1, .inr (6, [.ref a13, .ref a24, .ref a35, .ref a46, .ref a57, .int (-1), .int 0]))]) [0] (by decide) rfl
  have hKc := hK.sub (tys' := []) [] rfl
  have hFc := va_free (wc := [(q1, .inr (6, [.ref a13, .ref a24, .ref a35, .ref a46, .ref a57, .int (-1), .int 0]))]) hD hS hA [0] rfl
  refine va_calli (va_runV (As := [.int (xs (1 : Int32).toNatClampNeg), .int (xs (2 : Int32).toNatClampNeg), .int (xs (3 : Int32).toNatClampNeg)]) (rest := []) ⟨hx, hb, hml, hown, hts⟩ (c_X6_claim l dC dI H.size q1 a13 a24 a35 a46 a57 (xs (1 : Int32).toNatClampNeg) (xs (2 : Int32).toNatClampNeg) (xs (3 : Int32).toNatClampNeg)) (cwV 3 hts gg_RL_60 rfl rfl rfl (by decide +kernel) ⟨Nat.le_of_ble_eq_true rfl, Nat.le_of_ble_eq_true rfl⟩) ⟨fun a U g mk q => by obtain ⟨q0, q1, qP, qK, qD⟩ := q; exact ⟨q0, q1, qP, va_K.moved (u := U) (U := U.calling g mk a) (Vm.Alike.refl U.vm) qK, qD⟩, va_recv hK hP (ci := 6) (q0 := 0) rfl rfl, fun U hU hW => ⟨rfl, by rw [hU], by rw [hU]; exact hPc, va_K.moved hW.alike hKc, hDc.weaken (fun _ _ _ _ => trivial)⟩⟩ rfl rfl hl.1 rfl (lv_room (Nat.le_of_ble_eq_true rfl)) dL_law_448 ⟨Nat.le_of_ble_eq_true rfl, Nat.le_of_ble_eq_true rfl⟩) hS (fun q _ h => hFc q h) hFc (fun r1 u t H1 locs ht hvm hw hB hz1 hk1 hS => ?_)
  obtain ⟨hP1, hK1, hD1⟩ := hB
  rw [ht] at hP1
  have hK1 := va_K.moved hvm.symm hK1
  obtain ⟨hP, hD⟩ := va_join (wr := [(a13, .inr (0, [.ref ya8, .int 0])), (ya8, .inl (cA20, 1200, .inl f021)), (a24, .inr (3, [.ref b29, .ref t110, .ref t211, .ref t312, .int 0])), (b29, .inr (0, [.ref yb13, .int 0])), (a35, .inr (1, [.ref h114, .ref h215, .ref h316, .int 0, .int 0, .int 0])), (a57, .inr (5, [.ref h417, .ref b518, .int 0])), (b518, .inr (0, [.ref yc19, .int 0])), (q22, .inr (7, [.int 0, .ref m124, .int 0, .int (-1), .int 0, .int 0, .int 0, .ref m225, .int 0, .int 0, .ref m326, .ref m427, .ref m528, .ref m629, .ref m730, .ref m831, .ref m932, .int 0, .ref m1033, .ref m1134, .ref m1235, .int 0, .ref m1336, .ref m1437, .ref m1538, .int 0, .ref m1639, .int 0, .int 0])), (m124, .inl (cI40, 1200, .inl f041))]) (w1 := []) hP hD [0] [1, 2, 3, 4, 5, 6, 7, 8, 9] rfl rfl (by decide) (by decide) hk1 hFc hP1 hD1
  have hK := (hK.sub (tys' := [(cA20, .byte), (cI40, .int)]) [0, 1] rfl).app hK1
  generalize H1 = H at hP hS ⊢
  have hP : va_P (dC, dI) vwCl [(a13, .inr (0, [.ref ya8, .int 0])), (ya8, .inl (cA20, 1200, .inl f021)), (a24, .inr (3, [.ref b29, .ref t110, .ref t211, .ref t312, .int 0])), (b29, .inr (0, [.ref yb13, .int 0])), (a35, .inr (1, [.ref h114, .ref h215, .ref h316, .int 0, .int 0, .int 0])), (a57, .inr (5, [.ref h417, .ref b518, .int 0])), (b518, .inr (0, [.ref yc19, .int 0])), (q22, .inr (7, [.int 0, .ref m124, .int 0, .int (-1), .int 0, .int 0, .int 0, .ref m225, .int 0, .int 0, .ref m326, .ref m427, .ref m528, .ref m629, .ref m730, .ref m831, .ref m932, .int 0, .ref m1033, .ref m1134, .ref m1235, .int 0, .ref m1336, .ref m1437, .ref m1538, .int 0, .ref m1639, .int 0, .int 0])), (m124, .inl (cI40, 1200, .inl f041))] H := hP
  have hD : va_D (fun q : Nat => s.heap.size ≤ q) [(a13, .inr (0, [.ref ya8, .int 0])), (ya8, .inl (cA20, 1200, .inl f021)), (a24, .inr (3, [.ref b29, .ref t110, .ref t211, .ref t312, .int 0])), (b29, .inr (0, [.ref yb13, .int 0])), (a35, .inr (1, [.ref h114, .ref h215, .ref h316, .int 0, .int 0, .int 0])), (a57, .inr (5, [.ref h417, .ref b518, .int 0])), (b518, .inr (0, [.ref yc19, .int 0])), (q22, .inr (7, [.int 0, .ref m124, .int 0, .int (-1), .int 0, .int 0, .int 0, .ref m225, .int 0, .int 0, .ref m326, .ref m427, .ref m528, .ref m629, .ref m730, .ref m831, .ref m932, .int 0, .ref m1033, .ref m1134, .ref m1235, .int 0, .ref m1336, .ref m1437, .ref m1538, .int 0, .ref m1639, .int 0, .int 0])), (m124, .inl (cI40, 1200, .inl f041))] := hD
  have hK : va_K (dC, dI) vwCl [(cA20, .byte), (cI40, .int)] s := hK
  have hw : r1 = (-4) := hw
  subst hw
  refine lv_aload_n hx hb dL_law_451 rfl (lv_at hl 1 rfl) ?_
  refine lv_aload_n hx hb dL_law_452 rfl (lv_at hl 3 rfl) ?_
  refine lv_iload_n hx hb dL_law_453 rfl (lv_at hl 0 rfl) ?_
  refine lv_iconst (v := 1) hx hb dL_law_454 (by decide) ?_
  refine lv_iadd hx hb dL_law_455 ?_
  refine pf_top (y := 1) (by decide) ?_
  refine va_sld hx hb hX hbl hbA hS pf_i1 dL_law_456 ?_
  refine lv_aload_n hx hb dL_law_457 rfl (lv_at hl 3 rfl) ?_
  refine lv_iload_n hx hb dL_law_458 rfl (lv_at hl 0 rfl) ?_
  refine lv_iconst (v := 2) hx hb dL_law_459 (by decide) ?_
  refine lv_iadd hx hb dL_law_460 ?_
  refine pf_top (y := 2) (by decide) ?_
  refine va_sld hx hb hX hbl hbA hS pf_i2 dL_law_461 ?_
  refine lv_aload_n hx hb dL_law_462 rfl (lv_at hl 3 rfl) ?_
  refine lv_iload_n hx hb dL_law_463 rfl (lv_at hl 0 rfl) ?_
  refine lv_iconst (v := 3) hx hb dL_law_464 (by decide) ?_
  refine lv_iadd hx hb dL_law_465 ?_
  refine pf_top (y := 3) (by decide) ?_
  refine va_sld hx hb hX hbl hbA hS pf_i3 dL_law_466 ?_
  have hPc := hP.sub (ws' := [(q22, .inr (7, [.int 0, .ref m124, .int 0, .int (-1), .int 0, .int 0, .int 0, .ref m225, .int 0, .int 0, .ref m326, .ref m427, .ref m528, .ref m629, .ref m730, .ref m831, .ref m932, .int 0, .ref m1033, .ref m1134, .ref m1235, .int 0, .ref m1336, .ref m1437, .ref m1538, .int 0, .ref m1639, .int 0, .int 0]))]) [7] rfl
  have hDc := hD.sub (ws' := [(q22, .inr (7, [.int 0, .ref m124, .int 0, .int (-1), .int 0, .int 0, .int 0, .ref m225, .int 0, .int 0, .ref m326, .ref m427, .ref m528, .ref m629, .ref m730, .ref m831, .ref m932, .int 0, .ref m1033, .ref m1134, .ref m1235, .int 0, .ref m1336, .ref m1437, .ref m1538, .int 0, .ref m1639, .int 0, .int 0]))]) [7] (by decide) rfl
  have hKc := hK.sub (tys' := []) [] rfl
  have hFc := va_free (wc := [(q22, .inr (7, [.int 0, .ref m124, .int 0, .int (-1), .int 0, .int 0, .int 0, .ref m225, .int 0, .int 0, .ref m326, .ref m427, .ref m528, .ref m629, .ref m730, .ref m831, .ref m932, .int 0, .ref m1033, .ref m1134, .ref m1235, .int 0, .ref m1336, .ref m1437, .ref m1538, .int 0, .ref m1639, .int 0, .int 0]))]) hD hS hA [7] rfl
  refine va_calli (va_runV (As := [.int (xs (1 : Int32).toNatClampNeg), .int (xs (2 : Int32).toNatClampNeg), .int (xs (3 : Int32).toNatClampNeg)]) (rest := [.int (-4)]) ⟨hx, hb, hml, hown, hts⟩ (c_X7_claim l dC dI H.size q22 m124 m225 m326 m427 m528 m629 m730 m831 m932 m1033 m1134 m1235 m1336 m1437 m1538 m1639 (xs (1 : Int32).toNatClampNeg) (xs (2 : Int32).toNatClampNeg) (xs (3 : Int32).toNatClampNeg)) (cwV 3 hts gg_RL_63 rfl rfl rfl (by decide +kernel) ⟨Nat.le_of_ble_eq_true rfl, Nat.le_of_ble_eq_true rfl⟩) ⟨fun a U g mk q => by obtain ⟨q0, q1, qP, qK, qD⟩ := q; exact ⟨q0, q1, qP, va_K.moved (u := U) (U := U.calling g mk a) (Vm.Alike.refl U.vm) qK, qD⟩, va_recv hK hP (ci := 7) (q0 := 7) rfl rfl, fun U hU hW => ⟨rfl, by rw [hU], by rw [hU]; exact hPc, va_K.moved hW.alike hKc, hDc.weaken (fun _ _ _ _ => trivial)⟩⟩ rfl rfl hl.1 rfl (lv_room (Nat.le_of_ble_eq_true rfl)) dL_law_467 ⟨Nat.le_of_ble_eq_true rfl, Nat.le_of_ble_eq_true rfl⟩) hS (fun q _ h => hFc q h) hFc (fun r2 u t H1 locs ht hvm hw hB hz1 hk1 hS => ?_)
  obtain ⟨hP1, hK1, hD1⟩ := hB
  rw [ht] at hP1
  have hK1 := va_K.moved hvm.symm hK1
  obtain ⟨hP, hD⟩ := va_join (wr := [(a13, .inr (0, [.ref ya8, .int 0])), (ya8, .inl (cA20, 1200, .inl f021)), (a24, .inr (3, [.ref b29, .ref t110, .ref t211, .ref t312, .int 0])), (b29, .inr (0, [.ref yb13, .int 0])), (a35, .inr (1, [.ref h114, .ref h215, .ref h316, .int 0, .int 0, .int 0])), (a57, .inr (5, [.ref h417, .ref b518, .int 0])), (b518, .inr (0, [.ref yc19, .int 0])), (m124, .inl (cI40, 1200, .inl f041))]) (w1 := []) hP hD [7] [0, 1, 2, 3, 4, 5, 6, 8] rfl rfl (by decide) (by decide) hk1 hFc hP1 hD1
  have hK := (hK.sub (tys' := [(cA20, .byte), (cI40, .int)]) [0, 1] rfl).app hK1
  generalize H1 = H at hP hS ⊢
  have hP : va_P (dC, dI) vwCl [(a13, .inr (0, [.ref ya8, .int 0])), (ya8, .inl (cA20, 1200, .inl f021)), (a24, .inr (3, [.ref b29, .ref t110, .ref t211, .ref t312, .int 0])), (b29, .inr (0, [.ref yb13, .int 0])), (a35, .inr (1, [.ref h114, .ref h215, .ref h316, .int 0, .int 0, .int 0])), (a57, .inr (5, [.ref h417, .ref b518, .int 0])), (b518, .inr (0, [.ref yc19, .int 0])), (m124, .inl (cI40, 1200, .inl f041))] H := hP
  have hD : va_D (fun q : Nat => s.heap.size ≤ q) [(a13, .inr (0, [.ref ya8, .int 0])), (ya8, .inl (cA20, 1200, .inl f021)), (a24, .inr (3, [.ref b29, .ref t110, .ref t211, .ref t312, .int 0])), (b29, .inr (0, [.ref yb13, .int 0])), (a35, .inr (1, [.ref h114, .ref h215, .ref h316, .int 0, .int 0, .int 0])), (a57, .inr (5, [.ref h417, .ref b518, .int 0])), (b518, .inr (0, [.ref yc19, .int 0])), (m124, .inl (cI40, 1200, .inl f041))] := hD
  have hK : va_K (dC, dI) vwCl [(cA20, .byte), (cI40, .int)] s := hK
  have hw : r2 = (-4) := hw
  subst hw
  refine lv_icmp_eq (tgt := 600) hx hb dL_law_470 (by decide) (fun c_470 => ?_) (fun c_470 => absurd (rfl) c_470)
  exact law_end C0 hS (lv_sub hl [3, 0] rfl)

set_option maxHeartbeats 4000000 in
set_option maxRecDepth 100000 in
theorem law_size {p : Program} {l : Launch} {e : Env} {s : State} {m : MethodId} {below : List Frame} {meth : Method} {c : Code} {b : Nat} {xs : Nat → Int32} (C0 : lw_At p s m meth c b 4 xs) {dC : Nat → ClassId} {dI : Nat → Nat → Nat} {q1 a13 a24 a35 a46 a57 ya8 b29 t110 t211 t312 yb13 h114 h215 h316 h417 b518 yc19 q22 m124 m225 m326 m427 m528 m629 m730 m831 m932 m1033 m1134 m1235 m1336 m1437 m1538 m1639 : Nat} {cA20 cI40 : ClassId} {f021 f041 : Nat → Int32} {H : Heap} {locs : List Loc} (hK : va_K (dC, dI) vwCl [(cA20, .byte), (cI40, .int)] s) (hP : va_P (dC, dI) vwCl [(q1, .inr (6, [.ref a13, .ref a24, .ref a35, .ref a46, .ref a57, .int (-1), .int 0])), (a13, .inr (0, [.ref ya8, .int 0])), (ya8, .inl (cA20, 1200, .inl f021)), (a24, .inr (3, [.ref b29, .ref t110, .ref t211, .ref t312, .int 0])), (b29, .inr (0, [.ref yb13, .int 0])), (a35, .inr (1, [.ref h114, .ref h215, .ref h316, .int 0, .int 0, .int 0])), (a57, .inr (5, [.ref h417, .ref b518, .int 0])), (b518, .inr (0, [.ref yc19, .int 0])), (q22, .inr (7, [.int 0, .ref m124, .int 0, .int (-1), .int 0, .int 0, .int 0, .ref m225, .int 0, .int 0, .ref m326, .ref m427, .ref m528, .ref m629, .ref m730, .ref m831, .ref m932, .int 0, .ref m1033, .ref m1134, .ref m1235, .int 0, .ref m1336, .ref m1437, .ref m1538, .int 0, .ref m1639, .int 0, .int 0])), (m124, .inl (cI40, 1200, .inl f041))] H) (hD : va_D (fun q : Nat => s.heap.size ≤ q) [(q1, .inr (6, [.ref a13, .ref a24, .ref a35, .ref a46, .ref a57, .int (-1), .int 0])), (a13, .inr (0, [.ref ya8, .int 0])), (ya8, .inl (cA20, 1200, .inl f021)), (a24, .inr (3, [.ref b29, .ref t110, .ref t211, .ref t312, .int 0])), (b29, .inr (0, [.ref yb13, .int 0])), (a35, .inr (1, [.ref h114, .ref h215, .ref h316, .int 0, .int 0, .int 0])), (a57, .inr (5, [.ref h417, .ref b518, .int 0])), (b518, .inr (0, [.ref yc19, .int 0])), (q22, .inr (7, [.int 0, .ref m124, .int 0, .int (-1), .int 0, .int 0, .int 0, .ref m225, .int 0, .int 0, .ref m326, .ref m427, .ref m528, .ref m629, .ref m730, .ref m831, .ref m932, .int 0, .ref m1033, .ref m1134, .ref m1235, .int 0, .ref m1336, .ref m1437, .ref m1538, .int 0, .ref m1639, .int 0, .int 0])), (m124, .inl (cI40, 1200, .inl f041))]) (hS : va_S (fun q : Nat => s.heap.size ≤ q) s.heap H locs) {ls : Array Slot} (hl : lv_has ls 4 [(3, .int 0), (2, .ref q22), (1, .ref q1), (0, .ref b)]) : W p l e room_1 s m #[Value.ref b] below meth c H locs 40 14459 (lw_Z below #[Value.ref b] s) (F0 m 475 ls []) := by
  obtain ⟨hx, hb, hr, hml, hown0, hts0, hX, hbl, hlocks, hgv⟩ := id C0
  have hown : s.vm.findClass RL = some m.cls := hown0
  have hts : ∀ w ∈ pwAll, w.before #[Value.ref b] s = true := fun w h => hts0 w (pwAll_in w h)
  have hA : ∀ q : Nat, s.heap.size ≤ q → (fun q : Nat => s.heap.size ≤ q) q := fun _ h => h
  have hbA : ¬ (fun q : Nat => s.heap.size ≤ q) b := Nat.not_le.mpr hbl
  refine lv_aload_n hx hb dL_law_475 rfl (lv_at hl 2 rfl) ?_
  refine lv_aload_n hx hb dL_law_476 rfl (lv_at hl 3 rfl) ?_
  refine lv_iload_n hx hb dL_law_477 rfl (lv_at hl 0 rfl) ?_
  refine lv_iconst (v := 1) hx hb dL_law_478 (by decide) ?_
  refine lv_iadd hx hb dL_law_479 ?_
  refine pf_top (y := 1) (by decide) ?_
  refine va_sld hx hb hX hbl hbA hS pf_i1 dL_law_480 ?_
  refine lv_aload_n hx hb dL_law_481 rfl (lv_at hl 3 rfl) ?_
  refine lv_iload_n hx hb dL_law_482 rfl (lv_at hl 0 rfl) ?_
  refine lv_iconst (v := 2) hx hb dL_law_483 (by decide) ?_
  refine lv_iadd hx hb dL_law_484 ?_
  refine pf_top (y := 2) (by decide) ?_
  refine va_sld hx hb hX hbl hbA hS pf_i2 dL_law_485 ?_
  have hPc := hP.sub (ws' := [(q1, .inr (6, [.ref a13, .ref a24, .ref a35, .ref a46, .ref a57, .int (-1), .int 0]))]) [0] rfl
  have hDc := hD.sub (ws' := [(q1, .inr (6, [.ref a13, .ref a24, .ref a35, .ref a46, .ref a57, .int (-1), .int 0]))]) [0] (by decide) rfl
  have hKc := hK.sub (tys' := []) [] rfl
  have hFc := va_free (wc := [(q1, .inr (6, [.ref a13, .ref a24, .ref a35, .ref a46, .ref a57, .int (-1), .int 0]))]) hD hS hA [0] rfl
  refine va_calli (va_runV (As := [.int (xs (1 : Int32).toNatClampNeg), .int (xs (2 : Int32).toNatClampNeg)]) (rest := []) ⟨hx, hb, hml, hown, hts⟩ (c_X6_size l dC dI H.size q1 a13 a24 a35 a46 a57 (xs (1 : Int32).toNatClampNeg) (xs (2 : Int32).toNatClampNeg)) (cwV 2 hts gg_RL_64 rfl rfl rfl (by decide +kernel) ⟨Nat.le_of_ble_eq_true rfl, Nat.le_of_ble_eq_true rfl⟩) ⟨fun a U g mk q => by obtain ⟨q0, q1, qP, qK, qD⟩ := q; exact ⟨q0, q1, qP, va_K.moved (u := U) (U := U.calling g mk a) (Vm.Alike.refl U.vm) qK, qD⟩, va_recv hK hP (ci := 6) (q0 := 0) rfl rfl, fun U hU hW => ⟨rfl, by rw [hU], by rw [hU]; exact hPc, va_K.moved hW.alike hKc, hDc.weaken (fun _ _ _ _ => trivial)⟩⟩ rfl rfl hl.1 rfl (lv_room (Nat.le_of_ble_eq_true rfl)) dL_law_486 ⟨Nat.le_of_ble_eq_true rfl, Nat.le_of_ble_eq_true rfl⟩) hS (fun q _ h => hFc q h) hFc (fun r1 u t H1 locs ht hvm hw hB hz1 hk1 hS => ?_)
  obtain ⟨hP1, hK1, hD1⟩ := hB
  rw [ht] at hP1
  have hK1 := va_K.moved hvm.symm hK1
  obtain ⟨hP, hD⟩ := va_join (wr := [(a13, .inr (0, [.ref ya8, .int 0])), (ya8, .inl (cA20, 1200, .inl f021)), (a24, .inr (3, [.ref b29, .ref t110, .ref t211, .ref t312, .int 0])), (b29, .inr (0, [.ref yb13, .int 0])), (a35, .inr (1, [.ref h114, .ref h215, .ref h316, .int 0, .int 0, .int 0])), (a57, .inr (5, [.ref h417, .ref b518, .int 0])), (b518, .inr (0, [.ref yc19, .int 0])), (q22, .inr (7, [.int 0, .ref m124, .int 0, .int (-1), .int 0, .int 0, .int 0, .ref m225, .int 0, .int 0, .ref m326, .ref m427, .ref m528, .ref m629, .ref m730, .ref m831, .ref m932, .int 0, .ref m1033, .ref m1134, .ref m1235, .int 0, .ref m1336, .ref m1437, .ref m1538, .int 0, .ref m1639, .int 0, .int 0])), (m124, .inl (cI40, 1200, .inl f041))]) (w1 := []) hP hD [0] [1, 2, 3, 4, 5, 6, 7, 8, 9] rfl rfl (by decide) (by decide) hk1 hFc hP1 hD1
  have hK := (hK.sub (tys' := [(cA20, .byte), (cI40, .int)]) [0, 1] rfl).app hK1
  generalize H1 = H at hP hS ⊢
  have hP : va_P (dC, dI) vwCl [(a13, .inr (0, [.ref ya8, .int 0])), (ya8, .inl (cA20, 1200, .inl f021)), (a24, .inr (3, [.ref b29, .ref t110, .ref t211, .ref t312, .int 0])), (b29, .inr (0, [.ref yb13, .int 0])), (a35, .inr (1, [.ref h114, .ref h215, .ref h316, .int 0, .int 0, .int 0])), (a57, .inr (5, [.ref h417, .ref b518, .int 0])), (b518, .inr (0, [.ref yc19, .int 0])), (q22, .inr (7, [.int 0, .ref m124, .int 0, .int (-1), .int 0, .int 0, .int 0, .ref m225, .int 0, .int 0, .ref m326, .ref m427, .ref m528, .ref m629, .ref m730, .ref m831, .ref m932, .int 0, .ref m1033, .ref m1134, .ref m1235, .int 0, .ref m1336, .ref m1437, .ref m1538, .int 0, .ref m1639, .int 0, .int 0])), (m124, .inl (cI40, 1200, .inl f041))] H := hP
  have hD : va_D (fun q : Nat => s.heap.size ≤ q) [(a13, .inr (0, [.ref ya8, .int 0])), (ya8, .inl (cA20, 1200, .inl f021)), (a24, .inr (3, [.ref b29, .ref t110, .ref t211, .ref t312, .int 0])), (b29, .inr (0, [.ref yb13, .int 0])), (a35, .inr (1, [.ref h114, .ref h215, .ref h316, .int 0, .int 0, .int 0])), (a57, .inr (5, [.ref h417, .ref b518, .int 0])), (b518, .inr (0, [.ref yc19, .int 0])), (q22, .inr (7, [.int 0, .ref m124, .int 0, .int (-1), .int 0, .int 0, .int 0, .ref m225, .int 0, .int 0, .ref m326, .ref m427, .ref m528, .ref m629, .ref m730, .ref m831, .ref m932, .int 0, .ref m1033, .ref m1134, .ref m1235, .int 0, .ref m1336, .ref m1437, .ref m1538, .int 0, .ref m1639, .int 0, .int 0])), (m124, .inl (cI40, 1200, .inl f041))] := hD
  have hK : va_K (dC, dI) vwCl [(cA20, .byte), (cI40, .int)] s := hK
  have hw : r1 = (-4) := hw
  subst hw
  refine lv_aload_n hx hb dL_law_489 rfl (lv_at hl 1 rfl) ?_
  refine lv_aload_n hx hb dL_law_490 rfl (lv_at hl 3 rfl) ?_
  refine lv_iload_n hx hb dL_law_491 rfl (lv_at hl 0 rfl) ?_
  refine lv_iconst (v := 1) hx hb dL_law_492 (by decide) ?_
  refine lv_iadd hx hb dL_law_493 ?_
  refine pf_top (y := 1) (by decide) ?_
  refine va_sld hx hb hX hbl hbA hS pf_i1 dL_law_494 ?_
  refine lv_aload_n hx hb dL_law_495 rfl (lv_at hl 3 rfl) ?_
  refine lv_iload_n hx hb dL_law_496 rfl (lv_at hl 0 rfl) ?_
  refine lv_iconst (v := 2) hx hb dL_law_497 (by decide) ?_
  refine lv_iadd hx hb dL_law_498 ?_
  refine pf_top (y := 2) (by decide) ?_
  refine va_sld hx hb hX hbl hbA hS pf_i2 dL_law_499 ?_
  have hPc := hP.sub (ws' := [(q22, .inr (7, [.int 0, .ref m124, .int 0, .int (-1), .int 0, .int 0, .int 0, .ref m225, .int 0, .int 0, .ref m326, .ref m427, .ref m528, .ref m629, .ref m730, .ref m831, .ref m932, .int 0, .ref m1033, .ref m1134, .ref m1235, .int 0, .ref m1336, .ref m1437, .ref m1538, .int 0, .ref m1639, .int 0, .int 0]))]) [7] rfl
  have hDc := hD.sub (ws' := [(q22, .inr (7, [.int 0, .ref m124, .int 0, .int (-1), .int 0, .int 0, .int 0, .ref m225, .int 0, .int 0, .ref m326, .ref m427, .ref m528, .ref m629, .ref m730, .ref m831, .ref m932, .int 0, .ref m1033, .ref m1134, .ref m1235, .int 0, .ref m1336, .ref m1437, .ref m1538, .int 0, .ref m1639, .int 0, .int 0]))]) [7] (by decide) rfl
  have hKc := hK.sub (tys' := []) [] rfl
  have hFc := va_free (wc := [(q22, .inr (7, [.int 0, .ref m124, .int 0, .int (-1), .int 0, .int 0, .int 0, .ref m225, .int 0, .int 0, .ref m326, .ref m427, .ref m528, .ref m629, .ref m730, .ref m831, .ref m932, .int 0, .ref m1033, .ref m1134, .ref m1235, .int 0, .ref m1336, .ref m1437, .ref m1538, .int 0, .ref m1639, .int 0, .int 0]))]) hD hS hA [7] rfl
  refine va_calli (va_runV (As := [.int (xs (1 : Int32).toNatClampNeg), .int (xs (2 : Int32).toNatClampNeg)]) (rest := [.int (-4)]) ⟨hx, hb, hml, hown, hts⟩ (c_X7_size l dC dI H.size q22 m124 m225 m326 m427 m528 m629 m730 m831 m932 m1033 m1134 m1235 m1336 m1437 m1538 m1639 (xs (1 : Int32).toNatClampNeg) (xs (2 : Int32).toNatClampNeg)) (cwV 2 hts gg_RL_67 rfl rfl rfl (by decide +kernel) ⟨Nat.le_of_ble_eq_true rfl, Nat.le_of_ble_eq_true rfl⟩) ⟨fun a U g mk q => by obtain ⟨q0, q1, qP, qK, qD⟩ := q; exact ⟨q0, q1, qP, va_K.moved (u := U) (U := U.calling g mk a) (Vm.Alike.refl U.vm) qK, qD⟩, va_recv hK hP (ci := 7) (q0 := 7) rfl rfl, fun U hU hW => ⟨rfl, by rw [hU], by rw [hU]; exact hPc, va_K.moved hW.alike hKc, hDc.weaken (fun _ _ _ _ => trivial)⟩⟩ rfl rfl hl.1 rfl (lv_room (Nat.le_of_ble_eq_true rfl)) dL_law_500 ⟨Nat.le_of_ble_eq_true rfl, Nat.le_of_ble_eq_true rfl⟩) hS (fun q _ h => hFc q h) hFc (fun r2 u t H1 locs ht hvm hw hB hz1 hk1 hS => ?_)
  obtain ⟨hP1, hK1, hD1⟩ := hB
  rw [ht] at hP1
  have hK1 := va_K.moved hvm.symm hK1
  obtain ⟨hP, hD⟩ := va_join (wr := [(a13, .inr (0, [.ref ya8, .int 0])), (ya8, .inl (cA20, 1200, .inl f021)), (a24, .inr (3, [.ref b29, .ref t110, .ref t211, .ref t312, .int 0])), (b29, .inr (0, [.ref yb13, .int 0])), (a35, .inr (1, [.ref h114, .ref h215, .ref h316, .int 0, .int 0, .int 0])), (a57, .inr (5, [.ref h417, .ref b518, .int 0])), (b518, .inr (0, [.ref yc19, .int 0])), (m124, .inl (cI40, 1200, .inl f041))]) (w1 := []) hP hD [7] [0, 1, 2, 3, 4, 5, 6, 8] rfl rfl (by decide) (by decide) hk1 hFc hP1 hD1
  have hK := (hK.sub (tys' := [(cA20, .byte), (cI40, .int)]) [0, 1] rfl).app hK1
  generalize H1 = H at hP hS ⊢
  have hP : va_P (dC, dI) vwCl [(a13, .inr (0, [.ref ya8, .int 0])), (ya8, .inl (cA20, 1200, .inl f021)), (a24, .inr (3, [.ref b29, .ref t110, .ref t211, .ref t312, .int 0])), (b29, .inr (0, [.ref yb13, .int 0])), (a35, .inr (1, [.ref h114, .ref h215, .ref h316, .int 0, .int 0, .int 0])), (a57, .inr (5, [.ref h417, .ref b518, .int 0])), (b518, .inr (0, [.ref yc19, .int 0])), (m124, .inl (cI40, 1200, .inl f041))] H := hP
  have hD : va_D (fun q : Nat => s.heap.size ≤ q) [(a13, .inr (0, [.ref ya8, .int 0])), (ya8, .inl (cA20, 1200, .inl f021)), (a24, .inr (3, [.ref b29, .ref t110, .ref t211, .ref t312, .int 0])), (b29, .inr (0, [.ref yb13, .int 0])), (a35, .inr (1, [.ref h114, .ref h215, .ref h316, .int 0, .int 0, .int 0])), (a57, .inr (5, [.ref h417, .ref b518, .int 0])), (b518, .inr (0, [.ref yc19, .int 0])), (m124, .inl (cI40, 1200, .inl f041))] := hD
  have hK : va_K (dC, dI) vwCl [(cA20, .byte), (cI40, .int)] s := hK
  have hw : r2 = (-4) := hw
  subst hw
  refine lv_icmp_eq (tgt := 600) hx hb dL_law_503 (by decide) (fun c_503 => ?_) (fun c_503 => absurd (rfl) c_503)
  exact law_end C0 hS (lv_sub hl [3, 0] rfl)

set_option maxHeartbeats 4000000 in
set_option maxRecDepth 100000 in
theorem law_byteOf {p : Program} {l : Launch} {e : Env} {s : State} {m : MethodId} {below : List Frame} {meth : Method} {c : Code} {b : Nat} {xs : Nat → Int32} (C0 : lw_At p s m meth c b 4 xs) {dC : Nat → ClassId} {dI : Nat → Nat → Nat} {q1 a13 a24 a35 a46 a57 ya8 b29 t110 t211 t312 yb13 h114 h215 h316 h417 b518 yc19 q22 m124 m225 m326 m427 m528 m629 m730 m831 m932 m1033 m1134 m1235 m1336 m1437 m1538 m1639 : Nat} {cA20 cI40 : ClassId} {f021 f041 : Nat → Int32} {H : Heap} {locs : List Loc} (hK : va_K (dC, dI) vwCl [(cA20, .byte), (cI40, .int)] s) (hP : va_P (dC, dI) vwCl [(q1, .inr (6, [.ref a13, .ref a24, .ref a35, .ref a46, .ref a57, .int (-1), .int 0])), (a13, .inr (0, [.ref ya8, .int 0])), (ya8, .inl (cA20, 1200, .inl f021)), (a24, .inr (3, [.ref b29, .ref t110, .ref t211, .ref t312, .int 0])), (b29, .inr (0, [.ref yb13, .int 0])), (a35, .inr (1, [.ref h114, .ref h215, .ref h316, .int 0, .int 0, .int 0])), (a57, .inr (5, [.ref h417, .ref b518, .int 0])), (b518, .inr (0, [.ref yc19, .int 0])), (q22, .inr (7, [.int 0, .ref m124, .int 0, .int (-1), .int 0, .int 0, .int 0, .ref m225, .int 0, .int 0, .ref m326, .ref m427, .ref m528, .ref m629, .ref m730, .ref m831, .ref m932, .int 0, .ref m1033, .ref m1134, .ref m1235, .int 0, .ref m1336, .ref m1437, .ref m1538, .int 0, .ref m1639, .int 0, .int 0])), (m124, .inl (cI40, 1200, .inl f041))] H) (hD : va_D (fun q : Nat => s.heap.size ≤ q) [(q1, .inr (6, [.ref a13, .ref a24, .ref a35, .ref a46, .ref a57, .int (-1), .int 0])), (a13, .inr (0, [.ref ya8, .int 0])), (ya8, .inl (cA20, 1200, .inl f021)), (a24, .inr (3, [.ref b29, .ref t110, .ref t211, .ref t312, .int 0])), (b29, .inr (0, [.ref yb13, .int 0])), (a35, .inr (1, [.ref h114, .ref h215, .ref h316, .int 0, .int 0, .int 0])), (a57, .inr (5, [.ref h417, .ref b518, .int 0])), (b518, .inr (0, [.ref yc19, .int 0])), (q22, .inr (7, [.int 0, .ref m124, .int 0, .int (-1), .int 0, .int 0, .int 0, .ref m225, .int 0, .int 0, .ref m326, .ref m427, .ref m528, .ref m629, .ref m730, .ref m831, .ref m932, .int 0, .ref m1033, .ref m1134, .ref m1235, .int 0, .ref m1336, .ref m1437, .ref m1538, .int 0, .ref m1639, .int 0, .int 0])), (m124, .inl (cI40, 1200, .inl f041))]) (hS : va_S (fun q : Nat => s.heap.size ≤ q) s.heap H locs) {ls : Array Slot} (hl : lv_has ls 4 [(3, .int 0), (2, .ref q22), (1, .ref q1), (0, .ref b)]) : W p l e room_1 s m #[Value.ref b] below meth c H locs 40 14459 (lw_Z below #[Value.ref b] s) (F0 m 508 ls []) := by
  obtain ⟨hx, hb, hr, hml, hown0, hts0, hX, hbl, hlocks, hgv⟩ := id C0
  have hown : s.vm.findClass RL = some m.cls := hown0
  have hts : ∀ w ∈ pwAll, w.before #[Value.ref b] s = true := fun w h => hts0 w (pwAll_in w h)
  have hA : ∀ q : Nat, s.heap.size ≤ q → (fun q : Nat => s.heap.size ≤ q) q := fun _ h => h
  have hbA : ¬ (fun q : Nat => s.heap.size ≤ q) b := Nat.not_le.mpr hbl
  refine lv_aload_n hx hb dL_law_508 rfl (lv_at hl 2 rfl) ?_
  refine lv_aload_n hx hb dL_law_509 rfl (lv_at hl 3 rfl) ?_
  refine lv_iload_n hx hb dL_law_510 rfl (lv_at hl 0 rfl) ?_
  refine lv_iconst (v := 1) hx hb dL_law_511 (by decide) ?_
  refine lv_iadd hx hb dL_law_512 ?_
  refine pf_top (y := 1) (by decide) ?_
  refine va_sld hx hb hX hbl hbA hS pf_i1 dL_law_513 ?_
  refine lv_aload_n hx hb dL_law_514 rfl (lv_at hl 3 rfl) ?_
  refine lv_iload_n hx hb dL_law_515 rfl (lv_at hl 0 rfl) ?_
  refine lv_iconst (v := 2) hx hb dL_law_516 (by decide) ?_
  refine lv_iadd hx hb dL_law_517 ?_
  refine pf_top (y := 2) (by decide) ?_
  refine va_sld hx hb hX hbl hbA hS pf_i2 dL_law_518 ?_
  refine lv_aload_n hx hb dL_law_519 rfl (lv_at hl 3 rfl) ?_
  refine lv_iload_n hx hb dL_law_520 rfl (lv_at hl 0 rfl) ?_
  refine lv_iconst (v := 3) hx hb dL_law_521 (by decide) ?_
  refine lv_iadd hx hb dL_law_522 ?_
  refine pf_top (y := 3) (by decide) ?_
  refine va_sld hx hb hX hbl hbA hS pf_i3 dL_law_523 ?_
  have hPc := hP.sub (ws' := [(q1, .inr (6, [.ref a13, .ref a24, .ref a35, .ref a46, .ref a57, .int (-1), .int 0]))]) [0] rfl
  have hDc := hD.sub (ws' := [(q1, .inr (6, [.ref a13, .ref a24, .ref a35, .ref a46, .ref a57, .int (-1), .int 0]))]) [0] (by decide) rfl
  have hKc := hK.sub (tys' := []) [] rfl
  have hFc := va_free (wc := [(q1, .inr (6, [.ref a13, .ref a24, .ref a35, .ref a46, .ref a57, .int (-1), .int 0]))]) hD hS hA [0] rfl
  refine va_calli (va_runV (As := [.int (xs (1 : Int32).toNatClampNeg), .int (xs (2 : Int32).toNatClampNeg), .int (xs (3 : Int32).toNatClampNeg)]) (rest := []) ⟨hx, hb, hml, hown, hts⟩ (c_X6_byteOf l dC dI H.size q1 a13 a24 a35 a46 a57 (xs (1 : Int32).toNatClampNeg) (xs (2 : Int32).toNatClampNeg) (xs (3 : Int32).toNatClampNeg)) (cwV 3 hts gg_RL_68 rfl rfl rfl (by decide +kernel) ⟨Nat.le_of_ble_eq_true rfl, Nat.le_of_ble_eq_true rfl⟩) ⟨fun a U g mk q => by obtain ⟨q0, q1, qP, qK, qD⟩ := q; exact ⟨q0, q1, qP, va_K.moved (u := U) (U := U.calling g mk a) (Vm.Alike.refl U.vm) qK, qD⟩, va_recv hK hP (ci := 6) (q0 := 0) rfl rfl, fun U hU hW => ⟨rfl, by rw [hU], by rw [hU]; exact hPc, va_K.moved hW.alike hKc, hDc.weaken (fun _ _ _ _ => trivial)⟩⟩ rfl rfl hl.1 rfl (lv_room (Nat.le_of_ble_eq_true rfl)) dL_law_524 ⟨Nat.le_of_ble_eq_true rfl, Nat.le_of_ble_eq_true rfl⟩) hS (fun q _ h => hFc q h) hFc (fun r1 u t H1 locs ht hvm hw hB hz1 hk1 hS => ?_)
  obtain ⟨hP1, hK1, hD1⟩ := hB
  rw [ht] at hP1
  have hK1 := va_K.moved hvm.symm hK1
  obtain ⟨hP, hD⟩ := va_join (wr := [(a13, .inr (0, [.ref ya8, .int 0])), (ya8, .inl (cA20, 1200, .inl f021)), (a24, .inr (3, [.ref b29, .ref t110, .ref t211, .ref t312, .int 0])), (b29, .inr (0, [.ref yb13, .int 0])), (a35, .inr (1, [.ref h114, .ref h215, .ref h316, .int 0, .int 0, .int 0])), (a57, .inr (5, [.ref h417, .ref b518, .int 0])), (b518, .inr (0, [.ref yc19, .int 0])), (q22, .inr (7, [.int 0, .ref m124, .int 0, .int (-1), .int 0, .int 0, .int 0, .ref m225, .int 0, .int 0, .ref m326, .ref m427, .ref m528, .ref m629, .ref m730, .ref m831, .ref m932, .int 0, .ref m1033, .ref m1134, .ref m1235, .int 0, .ref m1336, .ref m1437, .ref m1538, .int 0, .ref m1639, .int 0, .int 0])), (m124, .inl (cI40, 1200, .inl f041))]) (w1 := []) hP hD [0] [1, 2, 3, 4, 5, 6, 7, 8, 9] rfl rfl (by decide) (by decide) hk1 hFc hP1 hD1
  have hK := (hK.sub (tys' := [(cA20, .byte), (cI40, .int)]) [0, 1] rfl).app hK1
  generalize H1 = H at hP hS ⊢
  have hP : va_P (dC, dI) vwCl [(a13, .inr (0, [.ref ya8, .int 0])), (ya8, .inl (cA20, 1200, .inl f021)), (a24, .inr (3, [.ref b29, .ref t110, .ref t211, .ref t312, .int 0])), (b29, .inr (0, [.ref yb13, .int 0])), (a35, .inr (1, [.ref h114, .ref h215, .ref h316, .int 0, .int 0, .int 0])), (a57, .inr (5, [.ref h417, .ref b518, .int 0])), (b518, .inr (0, [.ref yc19, .int 0])), (q22, .inr (7, [.int 0, .ref m124, .int 0, .int (-1), .int 0, .int 0, .int 0, .ref m225, .int 0, .int 0, .ref m326, .ref m427, .ref m528, .ref m629, .ref m730, .ref m831, .ref m932, .int 0, .ref m1033, .ref m1134, .ref m1235, .int 0, .ref m1336, .ref m1437, .ref m1538, .int 0, .ref m1639, .int 0, .int 0])), (m124, .inl (cI40, 1200, .inl f041))] H := hP
  have hD : va_D (fun q : Nat => s.heap.size ≤ q) [(a13, .inr (0, [.ref ya8, .int 0])), (ya8, .inl (cA20, 1200, .inl f021)), (a24, .inr (3, [.ref b29, .ref t110, .ref t211, .ref t312, .int 0])), (b29, .inr (0, [.ref yb13, .int 0])), (a35, .inr (1, [.ref h114, .ref h215, .ref h316, .int 0, .int 0, .int 0])), (a57, .inr (5, [.ref h417, .ref b518, .int 0])), (b518, .inr (0, [.ref yc19, .int 0])), (q22, .inr (7, [.int 0, .ref m124, .int 0, .int (-1), .int 0, .int 0, .int 0, .ref m225, .int 0, .int 0, .ref m326, .ref m427, .ref m528, .ref m629, .ref m730, .ref m831, .ref m932, .int 0, .ref m1033, .ref m1134, .ref m1235, .int 0, .ref m1336, .ref m1437, .ref m1538, .int 0, .ref m1639, .int 0, .int 0])), (m124, .inl (cI40, 1200, .inl f041))] := hD
  have hK : va_K (dC, dI) vwCl [(cA20, .byte), (cI40, .int)] s := hK
  have hw : r1 = (-4) := hw
  subst hw
  refine lv_aload_n hx hb dL_law_527 rfl (lv_at hl 1 rfl) ?_
  refine lv_aload_n hx hb dL_law_528 rfl (lv_at hl 3 rfl) ?_
  refine lv_iload_n hx hb dL_law_529 rfl (lv_at hl 0 rfl) ?_
  refine lv_iconst (v := 1) hx hb dL_law_530 (by decide) ?_
  refine lv_iadd hx hb dL_law_531 ?_
  refine pf_top (y := 1) (by decide) ?_
  refine va_sld hx hb hX hbl hbA hS pf_i1 dL_law_532 ?_
  refine lv_aload_n hx hb dL_law_533 rfl (lv_at hl 3 rfl) ?_
  refine lv_iload_n hx hb dL_law_534 rfl (lv_at hl 0 rfl) ?_
  refine lv_iconst (v := 2) hx hb dL_law_535 (by decide) ?_
  refine lv_iadd hx hb dL_law_536 ?_
  refine pf_top (y := 2) (by decide) ?_
  refine va_sld hx hb hX hbl hbA hS pf_i2 dL_law_537 ?_
  refine lv_aload_n hx hb dL_law_538 rfl (lv_at hl 3 rfl) ?_
  refine lv_iload_n hx hb dL_law_539 rfl (lv_at hl 0 rfl) ?_
  refine lv_iconst (v := 3) hx hb dL_law_540 (by decide) ?_
  refine lv_iadd hx hb dL_law_541 ?_
  refine pf_top (y := 3) (by decide) ?_
  refine va_sld hx hb hX hbl hbA hS pf_i3 dL_law_542 ?_
  have hPc := hP.sub (ws' := [(q22, .inr (7, [.int 0, .ref m124, .int 0, .int (-1), .int 0, .int 0, .int 0, .ref m225, .int 0, .int 0, .ref m326, .ref m427, .ref m528, .ref m629, .ref m730, .ref m831, .ref m932, .int 0, .ref m1033, .ref m1134, .ref m1235, .int 0, .ref m1336, .ref m1437, .ref m1538, .int 0, .ref m1639, .int 0, .int 0]))]) [7] rfl
  have hDc := hD.sub (ws' := [(q22, .inr (7, [.int 0, .ref m124, .int 0, .int (-1), .int 0, .int 0, .int 0, .ref m225, .int 0, .int 0, .ref m326, .ref m427, .ref m528, .ref m629, .ref m730, .ref m831, .ref m932, .int 0, .ref m1033, .ref m1134, .ref m1235, .int 0, .ref m1336, .ref m1437, .ref m1538, .int 0, .ref m1639, .int 0, .int 0]))]) [7] (by decide) rfl
  have hKc := hK.sub (tys' := []) [] rfl
  have hFc := va_free (wc := [(q22, .inr (7, [.int 0, .ref m124, .int 0, .int (-1), .int 0, .int 0, .int 0, .ref m225, .int 0, .int 0, .ref m326, .ref m427, .ref m528, .ref m629, .ref m730, .ref m831, .ref m932, .int 0, .ref m1033, .ref m1134, .ref m1235, .int 0, .ref m1336, .ref m1437, .ref m1538, .int 0, .ref m1639, .int 0, .int 0]))]) hD hS hA [7] rfl
  refine va_calli (va_runV (As := [.int (xs (1 : Int32).toNatClampNeg), .int (xs (2 : Int32).toNatClampNeg), .int (xs (3 : Int32).toNatClampNeg)]) (rest := [.int (-4)]) ⟨hx, hb, hml, hown, hts⟩ (c_X7_byteOf l dC dI H.size q22 m124 m225 m326 m427 m528 m629 m730 m831 m932 m1033 m1134 m1235 m1336 m1437 m1538 m1639 (xs (1 : Int32).toNatClampNeg) (xs (2 : Int32).toNatClampNeg) (xs (3 : Int32).toNatClampNeg)) (cwV 3 hts gg_RL_71 rfl rfl rfl (by decide +kernel) ⟨Nat.le_of_ble_eq_true rfl, Nat.le_of_ble_eq_true rfl⟩) ⟨fun a U g mk q => by obtain ⟨q0, q1, qP, qK, qD⟩ := q; exact ⟨q0, q1, qP, va_K.moved (u := U) (U := U.calling g mk a) (Vm.Alike.refl U.vm) qK, qD⟩, va_recv hK hP (ci := 7) (q0 := 7) rfl rfl, fun U hU hW => ⟨rfl, by rw [hU], by rw [hU]; exact hPc, va_K.moved hW.alike hKc, hDc.weaken (fun _ _ _ _ => trivial)⟩⟩ rfl rfl hl.1 rfl (lv_room (Nat.le_of_ble_eq_true rfl)) dL_law_543 ⟨Nat.le_of_ble_eq_true rfl, Nat.le_of_ble_eq_true rfl⟩) hS (fun q _ h => hFc q h) hFc (fun r2 u t H1 locs ht hvm hw hB hz1 hk1 hS => ?_)
  obtain ⟨hP1, hK1, hD1⟩ := hB
  rw [ht] at hP1
  have hK1 := va_K.moved hvm.symm hK1
  obtain ⟨hP, hD⟩ := va_join (wr := [(a13, .inr (0, [.ref ya8, .int 0])), (ya8, .inl (cA20, 1200, .inl f021)), (a24, .inr (3, [.ref b29, .ref t110, .ref t211, .ref t312, .int 0])), (b29, .inr (0, [.ref yb13, .int 0])), (a35, .inr (1, [.ref h114, .ref h215, .ref h316, .int 0, .int 0, .int 0])), (a57, .inr (5, [.ref h417, .ref b518, .int 0])), (b518, .inr (0, [.ref yc19, .int 0])), (m124, .inl (cI40, 1200, .inl f041))]) (w1 := []) hP hD [7] [0, 1, 2, 3, 4, 5, 6, 8] rfl rfl (by decide) (by decide) hk1 hFc hP1 hD1
  have hK := (hK.sub (tys' := [(cA20, .byte), (cI40, .int)]) [0, 1] rfl).app hK1
  generalize H1 = H at hP hS ⊢
  have hP : va_P (dC, dI) vwCl [(a13, .inr (0, [.ref ya8, .int 0])), (ya8, .inl (cA20, 1200, .inl f021)), (a24, .inr (3, [.ref b29, .ref t110, .ref t211, .ref t312, .int 0])), (b29, .inr (0, [.ref yb13, .int 0])), (a35, .inr (1, [.ref h114, .ref h215, .ref h316, .int 0, .int 0, .int 0])), (a57, .inr (5, [.ref h417, .ref b518, .int 0])), (b518, .inr (0, [.ref yc19, .int 0])), (m124, .inl (cI40, 1200, .inl f041))] H := hP
  have hD : va_D (fun q : Nat => s.heap.size ≤ q) [(a13, .inr (0, [.ref ya8, .int 0])), (ya8, .inl (cA20, 1200, .inl f021)), (a24, .inr (3, [.ref b29, .ref t110, .ref t211, .ref t312, .int 0])), (b29, .inr (0, [.ref yb13, .int 0])), (a35, .inr (1, [.ref h114, .ref h215, .ref h316, .int 0, .int 0, .int 0])), (a57, .inr (5, [.ref h417, .ref b518, .int 0])), (b518, .inr (0, [.ref yc19, .int 0])), (m124, .inl (cI40, 1200, .inl f041))] := hD
  have hK : va_K (dC, dI) vwCl [(cA20, .byte), (cI40, .int)] s := hK
  have hw : r2 = (-4) := hw
  subst hw
  refine lv_icmp_eq (tgt := 600) hx hb dL_law_546 (by decide) (fun c_546 => ?_) (fun c_546 => absurd (rfl) c_546)
  exact law_end C0 hS (lv_sub hl [3, 0] rfl)

set_option maxHeartbeats 4000000 in
set_option maxRecDepth 100000 in
theorem law_answer {p : Program} {l : Launch} {e : Env} {s : State} {m : MethodId} {below : List Frame} {meth : Method} {c : Code} {b : Nat} {xs : Nat → Int32} (C0 : lw_At p s m meth c b 4 xs) {dC : Nat → ClassId} {dI : Nat → Nat → Nat} {q1 a13 a24 a35 a46 a57 ya8 b29 t110 t211 t312 yb13 h114 h215 h316 h417 b518 yc19 q22 m124 m225 m326 m427 m528 m629 m730 m831 m932 m1033 m1134 m1235 m1336 m1437 m1538 m1639 : Nat} {cA20 cI40 : ClassId} {f021 f041 : Nat → Int32} {H : Heap} {locs : List Loc} (hK : va_K (dC, dI) vwCl [(cA20, .byte), (cI40, .int)] s) (hP : va_P (dC, dI) vwCl [(q1, .inr (6, [.ref a13, .ref a24, .ref a35, .ref a46, .ref a57, .int (-1), .int 0])), (a13, .inr (0, [.ref ya8, .int 0])), (ya8, .inl (cA20, 1200, .inl f021)), (a24, .inr (3, [.ref b29, .ref t110, .ref t211, .ref t312, .int 0])), (b29, .inr (0, [.ref yb13, .int 0])), (a35, .inr (1, [.ref h114, .ref h215, .ref h316, .int 0, .int 0, .int 0])), (a57, .inr (5, [.ref h417, .ref b518, .int 0])), (b518, .inr (0, [.ref yc19, .int 0])), (q22, .inr (7, [.int 0, .ref m124, .int 0, .int (-1), .int 0, .int 0, .int 0, .ref m225, .int 0, .int 0, .ref m326, .ref m427, .ref m528, .ref m629, .ref m730, .ref m831, .ref m932, .int 0, .ref m1033, .ref m1134, .ref m1235, .int 0, .ref m1336, .ref m1437, .ref m1538, .int 0, .ref m1639, .int 0, .int 0])), (m124, .inl (cI40, 1200, .inl f041))] H) (hD : va_D (fun q : Nat => s.heap.size ≤ q) [(q1, .inr (6, [.ref a13, .ref a24, .ref a35, .ref a46, .ref a57, .int (-1), .int 0])), (a13, .inr (0, [.ref ya8, .int 0])), (ya8, .inl (cA20, 1200, .inl f021)), (a24, .inr (3, [.ref b29, .ref t110, .ref t211, .ref t312, .int 0])), (b29, .inr (0, [.ref yb13, .int 0])), (a35, .inr (1, [.ref h114, .ref h215, .ref h316, .int 0, .int 0, .int 0])), (a57, .inr (5, [.ref h417, .ref b518, .int 0])), (b518, .inr (0, [.ref yc19, .int 0])), (q22, .inr (7, [.int 0, .ref m124, .int 0, .int (-1), .int 0, .int 0, .int 0, .ref m225, .int 0, .int 0, .ref m326, .ref m427, .ref m528, .ref m629, .ref m730, .ref m831, .ref m932, .int 0, .ref m1033, .ref m1134, .ref m1235, .int 0, .ref m1336, .ref m1437, .ref m1538, .int 0, .ref m1639, .int 0, .int 0])), (m124, .inl (cI40, 1200, .inl f041))]) (hS : va_S (fun q : Nat => s.heap.size ≤ q) s.heap H locs) {ls : Array Slot} (hl : lv_has ls 4 [(3, .int 0), (2, .ref q22), (1, .ref q1), (0, .ref b)]) : W p l e room_1 s m #[Value.ref b] below meth c H locs 40 14459 (lw_Z below #[Value.ref b] s) (F0 m 551 ls []) := by
  obtain ⟨hx, hb, hr, hml, hown0, hts0, hX, hbl, hlocks, hgv⟩ := id C0
  have hown : s.vm.findClass RL = some m.cls := hown0
  have hts : ∀ w ∈ pwAll, w.before #[Value.ref b] s = true := fun w h => hts0 w (pwAll_in w h)
  have hA : ∀ q : Nat, s.heap.size ≤ q → (fun q : Nat => s.heap.size ≤ q) q := fun _ h => h
  have hbA : ¬ (fun q : Nat => s.heap.size ≤ q) b := Nat.not_le.mpr hbl
  refine lv_aload_n hx hb dL_law_551 rfl (lv_at hl 2 rfl) ?_
  have hPc := hP.sub (ws' := [(q1, .inr (6, [.ref a13, .ref a24, .ref a35, .ref a46, .ref a57, .int (-1), .int 0]))]) [0] rfl
  have hDc := hD.sub (ws' := [(q1, .inr (6, [.ref a13, .ref a24, .ref a35, .ref a46, .ref a57, .int (-1), .int 0]))]) [0] (by decide) rfl
  have hKc := hK.sub (tys' := []) [] rfl
  have hFc := va_free (wc := [(q1, .inr (6, [.ref a13, .ref a24, .ref a35, .ref a46, .ref a57, .int (-1), .int 0]))]) hD hS hA [0] rfl
  refine va_calli (va_runV (As := []) (rest := []) ⟨hx, hb, hml, hown, hts⟩ (c_X6_answer l dC dI H.size q1 a13 a24 a35 a46 a57) (cwV 0 hts gg_RL_72 rfl rfl rfl (by decide +kernel) ⟨Nat.le_of_ble_eq_true rfl, Nat.le_of_ble_eq_true rfl⟩) ⟨fun a U g mk q => by obtain ⟨q0, q1, qP, qK, qD⟩ := q; exact ⟨q0, q1, qP, va_K.moved (u := U) (U := U.calling g mk a) (Vm.Alike.refl U.vm) qK, qD⟩, va_recv hK hP (ci := 6) (q0 := 0) rfl rfl, fun U hU hW => ⟨rfl, by rw [hU], by rw [hU]; exact hPc, va_K.moved hW.alike hKc, hDc.weaken (fun _ _ _ _ => trivial)⟩⟩ rfl rfl hl.1 rfl (lv_room (Nat.le_of_ble_eq_true rfl)) dL_law_552 ⟨Nat.le_of_ble_eq_true rfl, Nat.le_of_ble_eq_true rfl⟩) hS (fun q _ h => hFc q h) hFc (fun r1 u t H1 locs ht hvm hw hB hz1 hk1 hS => ?_)
  obtain ⟨hP1, hK1, hD1⟩ := hB
  rw [ht] at hP1
  have hK1 := va_K.moved hvm.symm hK1
  obtain ⟨hP, hD⟩ := va_join (wr := [(a13, .inr (0, [.ref ya8, .int 0])), (ya8, .inl (cA20, 1200, .inl f021)), (a24, .inr (3, [.ref b29, .ref t110, .ref t211, .ref t312, .int 0])), (b29, .inr (0, [.ref yb13, .int 0])), (a35, .inr (1, [.ref h114, .ref h215, .ref h316, .int 0, .int 0, .int 0])), (a57, .inr (5, [.ref h417, .ref b518, .int 0])), (b518, .inr (0, [.ref yc19, .int 0])), (q22, .inr (7, [.int 0, .ref m124, .int 0, .int (-1), .int 0, .int 0, .int 0, .ref m225, .int 0, .int 0, .ref m326, .ref m427, .ref m528, .ref m629, .ref m730, .ref m831, .ref m932, .int 0, .ref m1033, .ref m1134, .ref m1235, .int 0, .ref m1336, .ref m1437, .ref m1538, .int 0, .ref m1639, .int 0, .int 0])), (m124, .inl (cI40, 1200, .inl f041))]) (w1 := []) hP hD [0] [1, 2, 3, 4, 5, 6, 7, 8, 9] rfl rfl (by decide) (by decide) hk1 hFc hP1 hD1
  have hK := (hK.sub (tys' := [(cA20, .byte), (cI40, .int)]) [0, 1] rfl).app hK1
  generalize H1 = H at hP hS ⊢
  have hP : va_P (dC, dI) vwCl [(a13, .inr (0, [.ref ya8, .int 0])), (ya8, .inl (cA20, 1200, .inl f021)), (a24, .inr (3, [.ref b29, .ref t110, .ref t211, .ref t312, .int 0])), (b29, .inr (0, [.ref yb13, .int 0])), (a35, .inr (1, [.ref h114, .ref h215, .ref h316, .int 0, .int 0, .int 0])), (a57, .inr (5, [.ref h417, .ref b518, .int 0])), (b518, .inr (0, [.ref yc19, .int 0])), (q22, .inr (7, [.int 0, .ref m124, .int 0, .int (-1), .int 0, .int 0, .int 0, .ref m225, .int 0, .int 0, .ref m326, .ref m427, .ref m528, .ref m629, .ref m730, .ref m831, .ref m932, .int 0, .ref m1033, .ref m1134, .ref m1235, .int 0, .ref m1336, .ref m1437, .ref m1538, .int 0, .ref m1639, .int 0, .int 0])), (m124, .inl (cI40, 1200, .inl f041))] H := hP
  have hD : va_D (fun q : Nat => s.heap.size ≤ q) [(a13, .inr (0, [.ref ya8, .int 0])), (ya8, .inl (cA20, 1200, .inl f021)), (a24, .inr (3, [.ref b29, .ref t110, .ref t211, .ref t312, .int 0])), (b29, .inr (0, [.ref yb13, .int 0])), (a35, .inr (1, [.ref h114, .ref h215, .ref h316, .int 0, .int 0, .int 0])), (a57, .inr (5, [.ref h417, .ref b518, .int 0])), (b518, .inr (0, [.ref yc19, .int 0])), (q22, .inr (7, [.int 0, .ref m124, .int 0, .int (-1), .int 0, .int 0, .int 0, .ref m225, .int 0, .int 0, .ref m326, .ref m427, .ref m528, .ref m629, .ref m730, .ref m831, .ref m932, .int 0, .ref m1033, .ref m1134, .ref m1235, .int 0, .ref m1336, .ref m1437, .ref m1538, .int 0, .ref m1639, .int 0, .int 0])), (m124, .inl (cI40, 1200, .inl f041))] := hD
  have hK : va_K (dC, dI) vwCl [(cA20, .byte), (cI40, .int)] s := hK
  have hw : r1 = (-4) := hw
  subst hw
  refine lv_aload_n hx hb dL_law_555 rfl (lv_at hl 1 rfl) ?_
  have hPc := hP.sub (ws' := [(q22, .inr (7, [.int 0, .ref m124, .int 0, .int (-1), .int 0, .int 0, .int 0, .ref m225, .int 0, .int 0, .ref m326, .ref m427, .ref m528, .ref m629, .ref m730, .ref m831, .ref m932, .int 0, .ref m1033, .ref m1134, .ref m1235, .int 0, .ref m1336, .ref m1437, .ref m1538, .int 0, .ref m1639, .int 0, .int 0]))]) [7] rfl
  have hDc := hD.sub (ws' := [(q22, .inr (7, [.int 0, .ref m124, .int 0, .int (-1), .int 0, .int 0, .int 0, .ref m225, .int 0, .int 0, .ref m326, .ref m427, .ref m528, .ref m629, .ref m730, .ref m831, .ref m932, .int 0, .ref m1033, .ref m1134, .ref m1235, .int 0, .ref m1336, .ref m1437, .ref m1538, .int 0, .ref m1639, .int 0, .int 0]))]) [7] (by decide) rfl
  have hKc := hK.sub (tys' := []) [] rfl
  have hFc := va_free (wc := [(q22, .inr (7, [.int 0, .ref m124, .int 0, .int (-1), .int 0, .int 0, .int 0, .ref m225, .int 0, .int 0, .ref m326, .ref m427, .ref m528, .ref m629, .ref m730, .ref m831, .ref m932, .int 0, .ref m1033, .ref m1134, .ref m1235, .int 0, .ref m1336, .ref m1437, .ref m1538, .int 0, .ref m1639, .int 0, .int 0]))]) hD hS hA [7] rfl
  refine va_calli (va_runV (As := []) (rest := [.int (-4)]) ⟨hx, hb, hml, hown, hts⟩ (c_X7_answer l dC dI H.size q22 m124 m225 m326 m427 m528 m629 m730 m831 m932 m1033 m1134 m1235 m1336 m1437 m1538 m1639) (cwV 0 hts gg_RL_75 rfl rfl rfl (by decide +kernel) ⟨Nat.le_of_ble_eq_true rfl, Nat.le_of_ble_eq_true rfl⟩) ⟨fun a U g mk q => by obtain ⟨q0, q1, qP, qK, qD⟩ := q; exact ⟨q0, q1, qP, va_K.moved (u := U) (U := U.calling g mk a) (Vm.Alike.refl U.vm) qK, qD⟩, va_recv hK hP (ci := 7) (q0 := 7) rfl rfl, fun U hU hW => ⟨rfl, by rw [hU], by rw [hU]; exact hPc, va_K.moved hW.alike hKc, hDc.weaken (fun _ _ _ _ => trivial)⟩⟩ rfl rfl hl.1 rfl (lv_room (Nat.le_of_ble_eq_true rfl)) dL_law_556 ⟨Nat.le_of_ble_eq_true rfl, Nat.le_of_ble_eq_true rfl⟩) hS (fun q _ h => hFc q h) hFc (fun r2 u t H1 locs ht hvm hw hB hz1 hk1 hS => ?_)
  obtain ⟨hP1, hK1, hD1⟩ := hB
  rw [ht] at hP1
  have hK1 := va_K.moved hvm.symm hK1
  obtain ⟨hP, hD⟩ := va_join (wr := [(a13, .inr (0, [.ref ya8, .int 0])), (ya8, .inl (cA20, 1200, .inl f021)), (a24, .inr (3, [.ref b29, .ref t110, .ref t211, .ref t312, .int 0])), (b29, .inr (0, [.ref yb13, .int 0])), (a35, .inr (1, [.ref h114, .ref h215, .ref h316, .int 0, .int 0, .int 0])), (a57, .inr (5, [.ref h417, .ref b518, .int 0])), (b518, .inr (0, [.ref yc19, .int 0])), (m124, .inl (cI40, 1200, .inl f041))]) (w1 := []) hP hD [7] [0, 1, 2, 3, 4, 5, 6, 8] rfl rfl (by decide) (by decide) hk1 hFc hP1 hD1
  have hK := (hK.sub (tys' := [(cA20, .byte), (cI40, .int)]) [0, 1] rfl).app hK1
  generalize H1 = H at hP hS ⊢
  have hP : va_P (dC, dI) vwCl [(a13, .inr (0, [.ref ya8, .int 0])), (ya8, .inl (cA20, 1200, .inl f021)), (a24, .inr (3, [.ref b29, .ref t110, .ref t211, .ref t312, .int 0])), (b29, .inr (0, [.ref yb13, .int 0])), (a35, .inr (1, [.ref h114, .ref h215, .ref h316, .int 0, .int 0, .int 0])), (a57, .inr (5, [.ref h417, .ref b518, .int 0])), (b518, .inr (0, [.ref yc19, .int 0])), (m124, .inl (cI40, 1200, .inl f041))] H := hP
  have hD : va_D (fun q : Nat => s.heap.size ≤ q) [(a13, .inr (0, [.ref ya8, .int 0])), (ya8, .inl (cA20, 1200, .inl f021)), (a24, .inr (3, [.ref b29, .ref t110, .ref t211, .ref t312, .int 0])), (b29, .inr (0, [.ref yb13, .int 0])), (a35, .inr (1, [.ref h114, .ref h215, .ref h316, .int 0, .int 0, .int 0])), (a57, .inr (5, [.ref h417, .ref b518, .int 0])), (b518, .inr (0, [.ref yc19, .int 0])), (m124, .inl (cI40, 1200, .inl f041))] := hD
  have hK : va_K (dC, dI) vwCl [(cA20, .byte), (cI40, .int)] s := hK
  have hw : r2 = (-4) := hw
  subst hw
  refine lv_icmp_eq (tgt := 600) hx hb dL_law_559 (by decide) (fun c_559 => ?_) (fun c_559 => absurd (rfl) c_559)
  exact law_end C0 hS (lv_sub hl [3, 0] rfl)

set_option maxHeartbeats 4000000 in
set_option maxRecDepth 100000 in
theorem law_answered {p : Program} {l : Launch} {e : Env} {s : State} {m : MethodId} {below : List Frame} {meth : Method} {c : Code} {b : Nat} {xs : Nat → Int32} (C0 : lw_At p s m meth c b 4 xs) {dC : Nat → ClassId} {dI : Nat → Nat → Nat} {q1 a13 a24 a35 a46 a57 ya8 b29 t110 t211 t312 yb13 h114 h215 h316 h417 b518 yc19 q22 m124 m225 m326 m427 m528 m629 m730 m831 m932 m1033 m1134 m1235 m1336 m1437 m1538 m1639 : Nat} {cA20 cI40 : ClassId} {f021 f041 : Nat → Int32} {H : Heap} {locs : List Loc} (hK : va_K (dC, dI) vwCl [(cA20, .byte), (cI40, .int)] s) (hP : va_P (dC, dI) vwCl [(q1, .inr (6, [.ref a13, .ref a24, .ref a35, .ref a46, .ref a57, .int (-1), .int 0])), (a13, .inr (0, [.ref ya8, .int 0])), (ya8, .inl (cA20, 1200, .inl f021)), (a24, .inr (3, [.ref b29, .ref t110, .ref t211, .ref t312, .int 0])), (b29, .inr (0, [.ref yb13, .int 0])), (a35, .inr (1, [.ref h114, .ref h215, .ref h316, .int 0, .int 0, .int 0])), (a57, .inr (5, [.ref h417, .ref b518, .int 0])), (b518, .inr (0, [.ref yc19, .int 0])), (q22, .inr (7, [.int 0, .ref m124, .int 0, .int (-1), .int 0, .int 0, .int 0, .ref m225, .int 0, .int 0, .ref m326, .ref m427, .ref m528, .ref m629, .ref m730, .ref m831, .ref m932, .int 0, .ref m1033, .ref m1134, .ref m1235, .int 0, .ref m1336, .ref m1437, .ref m1538, .int 0, .ref m1639, .int 0, .int 0])), (m124, .inl (cI40, 1200, .inl f041))] H) (hD : va_D (fun q : Nat => s.heap.size ≤ q) [(q1, .inr (6, [.ref a13, .ref a24, .ref a35, .ref a46, .ref a57, .int (-1), .int 0])), (a13, .inr (0, [.ref ya8, .int 0])), (ya8, .inl (cA20, 1200, .inl f021)), (a24, .inr (3, [.ref b29, .ref t110, .ref t211, .ref t312, .int 0])), (b29, .inr (0, [.ref yb13, .int 0])), (a35, .inr (1, [.ref h114, .ref h215, .ref h316, .int 0, .int 0, .int 0])), (a57, .inr (5, [.ref h417, .ref b518, .int 0])), (b518, .inr (0, [.ref yc19, .int 0])), (q22, .inr (7, [.int 0, .ref m124, .int 0, .int (-1), .int 0, .int 0, .int 0, .ref m225, .int 0, .int 0, .ref m326, .ref m427, .ref m528, .ref m629, .ref m730, .ref m831, .ref m932, .int 0, .ref m1033, .ref m1134, .ref m1235, .int 0, .ref m1336, .ref m1437, .ref m1538, .int 0, .ref m1639, .int 0, .int 0])), (m124, .inl (cI40, 1200, .inl f041))]) (hS : va_S (fun q : Nat => s.heap.size ≤ q) s.heap H locs) {ls : Array Slot} (hl : lv_has ls 4 [(3, .int 0), (2, .ref q22), (1, .ref q1), (0, .ref b)]) : W p l e room_1 s m #[Value.ref b] below meth c H locs 40 14459 (lw_Z below #[Value.ref b] s) (F0 m 564 ls []) := by
  obtain ⟨hx, hb, hr, hml, hown0, hts0, hX, hbl, hlocks, hgv⟩ := id C0
  have hown : s.vm.findClass RL = some m.cls := hown0
  have hts : ∀ w ∈ pwAll, w.before #[Value.ref b] s = true := fun w h => hts0 w (pwAll_in w h)
  have hA : ∀ q : Nat, s.heap.size ≤ q → (fun q : Nat => s.heap.size ≤ q) q := fun _ h => h
  have hbA : ¬ (fun q : Nat => s.heap.size ≤ q) b := Nat.not_le.mpr hbl
  refine lv_aload_n hx hb dL_law_564 rfl (lv_at hl 2 rfl) ?_
  refine lv_aload_n hx hb dL_law_565 rfl (lv_at hl 3 rfl) ?_
  refine lv_iload_n hx hb dL_law_566 rfl (lv_at hl 0 rfl) ?_
  refine lv_iconst (v := 1) hx hb dL_law_567 (by decide) ?_
  refine lv_iadd hx hb dL_law_568 ?_
  refine pf_top (y := 1) (by decide) ?_
  refine va_sld hx hb hX hbl hbA hS pf_i1 dL_law_569 ?_
  have hPc := hP.sub (ws' := [(q1, .inr (6, [.ref a13, .ref a24, .ref a35, .ref a46, .ref a57, .int (-1), .int 0])), (a57, .inr (5, [.ref h417, .ref b518, .int 0])), (b518, .inr (0, [.ref yc19, .int 0]))]) [0, 6, 7] rfl
  have hDc := hD.sub (ws' := [(q1, .inr (6, [.ref a13, .ref a24, .ref a35, .ref a46, .ref a57, .int (-1), .int 0])), (a57, .inr (5, [.ref h417, .ref b518, .int 0])), (b518, .inr (0, [.ref yc19, .int 0]))]) [0, 6, 7] (by decide) rfl
  have hKc := hK.sub (tys' := []) [] rfl
  have hFc := va_free (wc := [(q1, .inr (6, [.ref a13, .ref a24, .ref a35, .ref a46, .ref a57, .int (-1), .int 0])), (a57, .inr (5, [.ref h417, .ref b518, .int 0])), (b518, .inr (0, [.ref yc19, .int 0]))]) hD hS hA [0, 6, 7] rfl
  refine va_calli (va_runV (As := [.int (xs (1 : Int32).toNatClampNeg)]) (rest := []) ⟨hx, hb, hml, hown, hts⟩ (c_X6_answered l dC dI H.size q1 a13 a24 a35 a46 a57 h417 b518 yc19 (xs (1 : Int32).toNatClampNeg)) (cwV 1 hts gg_RL_76 rfl rfl rfl (by decide +kernel) ⟨Nat.le_of_ble_eq_true rfl, Nat.le_of_ble_eq_true rfl⟩) ⟨fun a U g mk q => by obtain ⟨q0, q1, qP, qK, qD⟩ := q; exact ⟨q0, q1, qP, va_K.moved (u := U) (U := U.calling g mk a) (Vm.Alike.refl U.vm) qK, qD⟩, va_recv hK hP (ci := 6) (q0 := 0) rfl rfl, fun U hU hW => ⟨rfl, by rw [hU], by rw [hU]; exact hPc, va_K.moved hW.alike hKc, hDc.weaken (fun _ _ _ _ => trivial)⟩⟩ rfl rfl hl.1 rfl (lv_room (Nat.le_of_ble_eq_true rfl)) dL_law_570 ⟨Nat.le_of_ble_eq_true rfl, Nat.le_of_ble_eq_true rfl⟩) hS (fun q _ h => hFc q h) hFc (fun r1 u t H1 locs ht hvm hw hB hz1 hk1 hS => ?_)
  obtain ⟨hP1, hK1, hD1⟩ := hB
  rw [ht] at hP1
  have hK1 := va_K.moved hvm.symm hK1
  obtain ⟨hP, hD⟩ := va_join (wr := [(a13, .inr (0, [.ref ya8, .int 0])), (ya8, .inl (cA20, 1200, .inl f021)), (a24, .inr (3, [.ref b29, .ref t110, .ref t211, .ref t312, .int 0])), (b29, .inr (0, [.ref yb13, .int 0])), (a35, .inr (1, [.ref h114, .ref h215, .ref h316, .int 0, .int 0, .int 0])), (q22, .inr (7, [.int 0, .ref m124, .int 0, .int (-1), .int 0, .int 0, .int 0, .ref m225, .int 0, .int 0, .ref m326, .ref m427, .ref m528, .ref m629, .ref m730, .ref m831, .ref m932, .int 0, .ref m1033, .ref m1134, .ref m1235, .int 0, .ref m1336, .ref m1437, .ref m1538, .int 0, .ref m1639, .int 0, .int 0])), (m124, .inl (cI40, 1200, .inl f041))]) (w1 := []) hP hD [0, 6, 7] [1, 2, 3, 4, 5, 8, 9] rfl rfl (by decide) (by decide) hk1 hFc hP1 hD1
  have hK := (hK.sub (tys' := [(cA20, .byte), (cI40, .int)]) [0, 1] rfl).app hK1
  generalize H1 = H at hP hS ⊢
  have hP : va_P (dC, dI) vwCl [(a13, .inr (0, [.ref ya8, .int 0])), (ya8, .inl (cA20, 1200, .inl f021)), (a24, .inr (3, [.ref b29, .ref t110, .ref t211, .ref t312, .int 0])), (b29, .inr (0, [.ref yb13, .int 0])), (a35, .inr (1, [.ref h114, .ref h215, .ref h316, .int 0, .int 0, .int 0])), (q22, .inr (7, [.int 0, .ref m124, .int 0, .int (-1), .int 0, .int 0, .int 0, .ref m225, .int 0, .int 0, .ref m326, .ref m427, .ref m528, .ref m629, .ref m730, .ref m831, .ref m932, .int 0, .ref m1033, .ref m1134, .ref m1235, .int 0, .ref m1336, .ref m1437, .ref m1538, .int 0, .ref m1639, .int 0, .int 0])), (m124, .inl (cI40, 1200, .inl f041))] H := hP
  have hD : va_D (fun q : Nat => s.heap.size ≤ q) [(a13, .inr (0, [.ref ya8, .int 0])), (ya8, .inl (cA20, 1200, .inl f021)), (a24, .inr (3, [.ref b29, .ref t110, .ref t211, .ref t312, .int 0])), (b29, .inr (0, [.ref yb13, .int 0])), (a35, .inr (1, [.ref h114, .ref h215, .ref h316, .int 0, .int 0, .int 0])), (q22, .inr (7, [.int 0, .ref m124, .int 0, .int (-1), .int 0, .int 0, .int 0, .ref m225, .int 0, .int 0, .ref m326, .ref m427, .ref m528, .ref m629, .ref m730, .ref m831, .ref m932, .int 0, .ref m1033, .ref m1134, .ref m1235, .int 0, .ref m1336, .ref m1437, .ref m1538, .int 0, .ref m1639, .int 0, .int 0])), (m124, .inl (cI40, 1200, .inl f041))] := hD
  have hK : va_K (dC, dI) vwCl [(cA20, .byte), (cI40, .int)] s := hK
  have hw : r1 = (-2) := hw
  subst hw
  refine lv_aload_n hx hb dL_law_573 rfl (lv_at hl 1 rfl) ?_
  refine lv_aload_n hx hb dL_law_574 rfl (lv_at hl 3 rfl) ?_
  refine lv_iload_n hx hb dL_law_575 rfl (lv_at hl 0 rfl) ?_
  refine lv_iconst (v := 1) hx hb dL_law_576 (by decide) ?_
  refine lv_iadd hx hb dL_law_577 ?_
  refine pf_top (y := 1) (by decide) ?_
  refine va_sld hx hb hX hbl hbA hS pf_i1 dL_law_578 ?_
  have hPc := hP.sub (ws' := [(q22, .inr (7, [.int 0, .ref m124, .int 0, .int (-1), .int 0, .int 0, .int 0, .ref m225, .int 0, .int 0, .ref m326, .ref m427, .ref m528, .ref m629, .ref m730, .ref m831, .ref m932, .int 0, .ref m1033, .ref m1134, .ref m1235, .int 0, .ref m1336, .ref m1437, .ref m1538, .int 0, .ref m1639, .int 0, .int 0]))]) [5] rfl
  have hDc := hD.sub (ws' := [(q22, .inr (7, [.int 0, .ref m124, .int 0, .int (-1), .int 0, .int 0, .int 0, .ref m225, .int 0, .int 0, .ref m326, .ref m427, .ref m528, .ref m629, .ref m730, .ref m831, .ref m932, .int 0, .ref m1033, .ref m1134, .ref m1235, .int 0, .ref m1336, .ref m1437, .ref m1538, .int 0, .ref m1639, .int 0, .int 0]))]) [5] (by decide) rfl
  have hKc := hK.sub (tys' := []) [] rfl
  have hFc := va_free (wc := [(q22, .inr (7, [.int 0, .ref m124, .int 0, .int (-1), .int 0, .int 0, .int 0, .ref m225, .int 0, .int 0, .ref m326, .ref m427, .ref m528, .ref m629, .ref m730, .ref m831, .ref m932, .int 0, .ref m1033, .ref m1134, .ref m1235, .int 0, .ref m1336, .ref m1437, .ref m1538, .int 0, .ref m1639, .int 0, .int 0]))]) hD hS hA [5] rfl
  refine va_calli (va_runV (As := [.int (xs (1 : Int32).toNatClampNeg)]) (rest := [.int (-2)]) ⟨hx, hb, hml, hown, hts⟩ (c_X7_answered l dC dI H.size q22 m124 m225 m326 m427 m528 m629 m730 m831 m932 m1033 m1134 m1235 m1336 m1437 m1538 m1639 (xs (1 : Int32).toNatClampNeg)) (cwV 1 hts gg_RL_79 rfl rfl rfl (by decide +kernel) ⟨Nat.le_of_ble_eq_true rfl, Nat.le_of_ble_eq_true rfl⟩) ⟨fun a U g mk q => by obtain ⟨q0, q1, qP, qK, qD⟩ := q; exact ⟨q0, q1, qP, va_K.moved (u := U) (U := U.calling g mk a) (Vm.Alike.refl U.vm) qK, qD⟩, va_recv hK hP (ci := 7) (q0 := 5) rfl rfl, fun U hU hW => ⟨rfl, by rw [hU], by rw [hU]; exact hPc, va_K.moved hW.alike hKc, hDc.weaken (fun _ _ _ _ => trivial)⟩⟩ rfl rfl hl.1 rfl (lv_room (Nat.le_of_ble_eq_true rfl)) dL_law_579 ⟨Nat.le_of_ble_eq_true rfl, Nat.le_of_ble_eq_true rfl⟩) hS (fun q _ h => hFc q h) hFc (fun r2 u t H1 locs ht hvm hw hB hz1 hk1 hS => ?_)
  obtain ⟨hP1, hK1, hD1⟩ := hB
  rw [ht] at hP1
  have hK1 := va_K.moved hvm.symm hK1
  obtain ⟨hP, hD⟩ := va_join (wr := [(a13, .inr (0, [.ref ya8, .int 0])), (ya8, .inl (cA20, 1200, .inl f021)), (a24, .inr (3, [.ref b29, .ref t110, .ref t211, .ref t312, .int 0])), (b29, .inr (0, [.ref yb13, .int 0])), (a35, .inr (1, [.ref h114, .ref h215, .ref h316, .int 0, .int 0, .int 0])), (m124, .inl (cI40, 1200, .inl f041))]) (w1 := []) hP hD [5] [0, 1, 2, 3, 4, 6] rfl rfl (by decide) (by decide) hk1 hFc hP1 hD1
  have hK := (hK.sub (tys' := [(cA20, .byte), (cI40, .int)]) [0, 1] rfl).app hK1
  generalize H1 = H at hP hS ⊢
  have hP : va_P (dC, dI) vwCl [(a13, .inr (0, [.ref ya8, .int 0])), (ya8, .inl (cA20, 1200, .inl f021)), (a24, .inr (3, [.ref b29, .ref t110, .ref t211, .ref t312, .int 0])), (b29, .inr (0, [.ref yb13, .int 0])), (a35, .inr (1, [.ref h114, .ref h215, .ref h316, .int 0, .int 0, .int 0])), (m124, .inl (cI40, 1200, .inl f041))] H := hP
  have hD : va_D (fun q : Nat => s.heap.size ≤ q) [(a13, .inr (0, [.ref ya8, .int 0])), (ya8, .inl (cA20, 1200, .inl f021)), (a24, .inr (3, [.ref b29, .ref t110, .ref t211, .ref t312, .int 0])), (b29, .inr (0, [.ref yb13, .int 0])), (a35, .inr (1, [.ref h114, .ref h215, .ref h316, .int 0, .int 0, .int 0])), (m124, .inl (cI40, 1200, .inl f041))] := hD
  have hK : va_K (dC, dI) vwCl [(cA20, .byte), (cI40, .int)] s := hK
  have hw : r2 = (-2) := hw
  subst hw
  refine lv_icmp_eq (tgt := 600) hx hb dL_law_582 (by decide) (fun c_582 => ?_) (fun c_582 => absurd (rfl) c_582)
  exact law_end C0 hS (lv_sub hl [3, 0] rfl)

set_option maxHeartbeats 4000000 in
set_option maxRecDepth 100000 in
theorem law_turn {p : Program} {l : Launch} {e : Env} {s : State} {m : MethodId} {below : List Frame} {meth : Method} {c : Code} {b : Nat} {xs : Nat → Int32} (C0 : lw_At p s m meth c b 4 xs) {dC : Nat → ClassId} {dI : Nat → Nat → Nat} {q1 a13 a24 a35 a46 a57 ya8 b29 t110 t211 t312 yb13 h114 h215 h316 h417 b518 yc19 q22 m124 m225 m326 m427 m528 m629 m730 m831 m932 m1033 m1134 m1235 m1336 m1437 m1538 m1639 : Nat} {cA20 cI40 : ClassId} {f021 f041 : Nat → Int32} {H : Heap} {locs : List Loc} (hK : va_K (dC, dI) vwCl [(cA20, .byte), (cI40, .int)] s) (hP : va_P (dC, dI) vwCl [(q1, .inr (6, [.ref a13, .ref a24, .ref a35, .ref a46, .ref a57, .int (-1), .int 0])), (a13, .inr (0, [.ref ya8, .int 0])), (ya8, .inl (cA20, 1200, .inl f021)), (a24, .inr (3, [.ref b29, .ref t110, .ref t211, .ref t312, .int 0])), (b29, .inr (0, [.ref yb13, .int 0])), (a35, .inr (1, [.ref h114, .ref h215, .ref h316, .int 0, .int 0, .int 0])), (a57, .inr (5, [.ref h417, .ref b518, .int 0])), (b518, .inr (0, [.ref yc19, .int 0])), (q22, .inr (7, [.int 0, .ref m124, .int 0, .int (-1), .int 0, .int 0, .int 0, .ref m225, .int 0, .int 0, .ref m326, .ref m427, .ref m528, .ref m629, .ref m730, .ref m831, .ref m932, .int 0, .ref m1033, .ref m1134, .ref m1235, .int 0, .ref m1336, .ref m1437, .ref m1538, .int 0, .ref m1639, .int 0, .int 0])), (m124, .inl (cI40, 1200, .inl f041))] H) (hD : va_D (fun q : Nat => s.heap.size ≤ q) [(q1, .inr (6, [.ref a13, .ref a24, .ref a35, .ref a46, .ref a57, .int (-1), .int 0])), (a13, .inr (0, [.ref ya8, .int 0])), (ya8, .inl (cA20, 1200, .inl f021)), (a24, .inr (3, [.ref b29, .ref t110, .ref t211, .ref t312, .int 0])), (b29, .inr (0, [.ref yb13, .int 0])), (a35, .inr (1, [.ref h114, .ref h215, .ref h316, .int 0, .int 0, .int 0])), (a57, .inr (5, [.ref h417, .ref b518, .int 0])), (b518, .inr (0, [.ref yc19, .int 0])), (q22, .inr (7, [.int 0, .ref m124, .int 0, .int (-1), .int 0, .int 0, .int 0, .ref m225, .int 0, .int 0, .ref m326, .ref m427, .ref m528, .ref m629, .ref m730, .ref m831, .ref m932, .int 0, .ref m1033, .ref m1134, .ref m1235, .int 0, .ref m1336, .ref m1437, .ref m1538, .int 0, .ref m1639, .int 0, .int 0])), (m124, .inl (cI40, 1200, .inl f041))]) (hS : va_S (fun q : Nat => s.heap.size ≤ q) s.heap H locs) {ls : Array Slot} (hl : lv_has ls 4 [(3, .int 0), (2, .ref q22), (1, .ref q1), (0, .ref b)]) : W p l e room_1 s m #[Value.ref b] below meth c H locs 40 14459 (lw_Z below #[Value.ref b] s) (F0 m 587 ls []) := by
  obtain ⟨hx, hb, hr, hml, hown0, hts0, hX, hbl, hlocks, hgv⟩ := id C0
  have hown : s.vm.findClass RL = some m.cls := hown0
  have hts : ∀ w ∈ pwAll, w.before #[Value.ref b] s = true := fun w h => hts0 w (pwAll_in w h)
  have hA : ∀ q : Nat, s.heap.size ≤ q → (fun q : Nat => s.heap.size ≤ q) q := fun _ h => h
  have hbA : ¬ (fun q : Nat => s.heap.size ≤ q) b := Nat.not_le.mpr hbl
  refine lv_aload_n hx hb dL_law_587 rfl (lv_at hl 2 rfl) ?_
  have hPc := hP.sub (ws' := [(q1, .inr (6, [.ref a13, .ref a24, .ref a35, .ref a46, .ref a57, .int (-1), .int 0])), (a57, .inr (5, [.ref h417, .ref b518, .int 0])), (b518, .inr (0, [.ref yc19, .int 0]))]) [0, 6, 7] rfl
  have hDc := hD.sub (ws' := [(q1, .inr (6, [.ref a13, .ref a24, .ref a35, .ref a46, .ref a57, .int (-1), .int 0])), (a57, .inr (5, [.ref h417, .ref b518, .int 0])), (b518, .inr (0, [.ref yc19, .int 0]))]) [0, 6, 7] (by decide) rfl
  have hKc := hK.sub (tys' := []) [] rfl
  have hFc := va_free (wc := [(q1, .inr (6, [.ref a13, .ref a24, .ref a35, .ref a46, .ref a57, .int (-1), .int 0])), (a57, .inr (5, [.ref h417, .ref b518, .int 0])), (b518, .inr (0, [.ref yc19, .int 0]))]) hD hS hA [0, 6, 7] rfl
  refine va_calli (va_runV (As := []) (rest := []) ⟨hx, hb, hml, hown, hts⟩ (c_X6_turn l dC dI H.size q1 a13 a24 a35 a46 a57 h417 b518 yc19) (cwV 0 hts gg_RL_80 rfl rfl rfl (by decide +kernel) ⟨Nat.le_of_ble_eq_true rfl, Nat.le_of_ble_eq_true rfl⟩) ⟨fun a U g mk q => by obtain ⟨q0, q1, qP, qK, qD⟩ := q; exact ⟨q0, q1, qP, va_K.moved (u := U) (U := U.calling g mk a) (Vm.Alike.refl U.vm) qK, qD⟩, va_recv hK hP (ci := 6) (q0 := 0) rfl rfl, fun U hU hW => ⟨rfl, by rw [hU], by rw [hU]; exact hPc, va_K.moved hW.alike hKc, hDc.weaken (fun _ _ _ _ => trivial)⟩⟩ rfl rfl hl.1 rfl (lv_room (Nat.le_of_ble_eq_true rfl)) dL_law_588 ⟨Nat.le_of_ble_eq_true rfl, Nat.le_of_ble_eq_true rfl⟩) hS (fun q _ h => hFc q h) hFc (fun r1 u t H1 locs ht hvm hw hB hz1 hk1 hS => ?_)
  obtain ⟨hP1, hK1, hD1⟩ := hB
  rw [ht] at hP1
  have hK1 := va_K.moved hvm.symm hK1
  obtain ⟨hP, hD⟩ := va_join (wr := [(a13, .inr (0, [.ref ya8, .int 0])), (ya8, .inl (cA20, 1200, .inl f021)), (a24, .inr (3, [.ref b29, .ref t110, .ref t211, .ref t312, .int 0])), (b29, .inr (0, [.ref yb13, .int 0])), (a35, .inr (1, [.ref h114, .ref h215, .ref h316, .int 0, .int 0, .int 0])), (q22, .inr (7, [.int 0, .ref m124, .int 0, .int (-1), .int 0, .int 0, .int 0, .ref m225, .int 0, .int 0, .ref m326, .ref m427, .ref m528, .ref m629, .ref m730, .ref m831, .ref m932, .int 0, .ref m1033, .ref m1134, .ref m1235, .int 0, .ref m1336, .ref m1437, .ref m1538, .int 0, .ref m1639, .int 0, .int 0])), (m124, .inl (cI40, 1200, .inl f041))]) (w1 := []) hP hD [0, 6, 7] [1, 2, 3, 4, 5, 8, 9] rfl rfl (by decide) (by decide) hk1 hFc hP1 hD1
  have hK := (hK.sub (tys' := [(cA20, .byte), (cI40, .int)]) [0, 1] rfl).app hK1
  generalize H1 = H at hP hS ⊢
  have hP : va_P (dC, dI) vwCl [(a13, .inr (0, [.ref ya8, .int 0])), (ya8, .inl (cA20, 1200, .inl f021)), (a24, .inr (3, [.ref b29, .ref t110, .ref t211, .ref t312, .int 0])), (b29, .inr (0, [.ref yb13, .int 0])), (a35, .inr (1, [.ref h114, .ref h215, .ref h316, .int 0, .int 0, .int 0])), (q22, .inr (7, [.int 0, .ref m124, .int 0, .int (-1), .int 0, .int 0, .int 0, .ref m225, .int 0, .int 0, .ref m326, .ref m427, .ref m528, .ref m629, .ref m730, .ref m831, .ref m932, .int 0, .ref m1033, .ref m1134, .ref m1235, .int 0, .ref m1336, .ref m1437, .ref m1538, .int 0, .ref m1639, .int 0, .int 0])), (m124, .inl (cI40, 1200, .inl f041))] H := hP
  have hD : va_D (fun q : Nat => s.heap.size ≤ q) [(a13, .inr (0, [.ref ya8, .int 0])), (ya8, .inl (cA20, 1200, .inl f021)), (a24, .inr (3, [.ref b29, .ref t110, .ref t211, .ref t312, .int 0])), (b29, .inr (0, [.ref yb13, .int 0])), (a35, .inr (1, [.ref h114, .ref h215, .ref h316, .int 0, .int 0, .int 0])), (q22, .inr (7, [.int 0, .ref m124, .int 0, .int (-1), .int 0, .int 0, .int 0, .ref m225, .int 0, .int 0, .ref m326, .ref m427, .ref m528, .ref m629, .ref m730, .ref m831, .ref m932, .int 0, .ref m1033, .ref m1134, .ref m1235, .int 0, .ref m1336, .ref m1437, .ref m1538, .int 0, .ref m1639, .int 0, .int 0])), (m124, .inl (cI40, 1200, .inl f041))] := hD
  have hK : va_K (dC, dI) vwCl [(cA20, .byte), (cI40, .int)] s := hK
  have hw : r1 = (-4) := hw
  subst hw
  refine lv_aload_n hx hb dL_law_591 rfl (lv_at hl 1 rfl) ?_
  have hPc := hP.sub (ws' := [(q22, .inr (7, [.int 0, .ref m124, .int 0, .int (-1), .int 0, .int 0, .int 0, .ref m225, .int 0, .int 0, .ref m326, .ref m427, .ref m528, .ref m629, .ref m730, .ref m831, .ref m932, .int 0, .ref m1033, .ref m1134, .ref m1235, .int 0, .ref m1336, .ref m1437, .ref m1538, .int 0, .ref m1639, .int 0, .int 0]))]) [5] rfl
  have hDc := hD.sub (ws' := [(q22, .inr (7, [.int 0, .ref m124, .int 0, .int (-1), .int 0, .int 0, .int 0, .ref m225, .int 0, .int 0, .ref m326, .ref m427, .ref m528, .ref m629, .ref m730, .ref m831, .ref m932, .int 0, .ref m1033, .ref m1134, .ref m1235, .int 0, .ref m1336, .ref m1437, .ref m1538, .int 0, .ref m1639, .int 0, .int 0]))]) [5] (by decide) rfl
  have hKc := hK.sub (tys' := []) [] rfl
  have hFc := va_free (wc := [(q22, .inr (7, [.int 0, .ref m124, .int 0, .int (-1), .int 0, .int 0, .int 0, .ref m225, .int 0, .int 0, .ref m326, .ref m427, .ref m528, .ref m629, .ref m730, .ref m831, .ref m932, .int 0, .ref m1033, .ref m1134, .ref m1235, .int 0, .ref m1336, .ref m1437, .ref m1538, .int 0, .ref m1639, .int 0, .int 0]))]) hD hS hA [5] rfl
  refine va_calli (va_runV (As := []) (rest := [.int (-4)]) ⟨hx, hb, hml, hown, hts⟩ (c_X7_turn l dC dI H.size q22 m124 m225 m326 m427 m528 m629 m730 m831 m932 m1033 m1134 m1235 m1336 m1437 m1538 m1639) (cwV 0 hts gg_RL_83 rfl rfl rfl (by decide +kernel) ⟨Nat.le_of_ble_eq_true rfl, Nat.le_of_ble_eq_true rfl⟩) ⟨fun a U g mk q => by obtain ⟨q0, q1, qP, qK, qD⟩ := q; exact ⟨q0, q1, qP, va_K.moved (u := U) (U := U.calling g mk a) (Vm.Alike.refl U.vm) qK, qD⟩, va_recv hK hP (ci := 7) (q0 := 5) rfl rfl, fun U hU hW => ⟨rfl, by rw [hU], by rw [hU]; exact hPc, va_K.moved hW.alike hKc, hDc.weaken (fun _ _ _ _ => trivial)⟩⟩ rfl rfl hl.1 rfl (lv_room (Nat.le_of_ble_eq_true rfl)) dL_law_592 ⟨Nat.le_of_ble_eq_true rfl, Nat.le_of_ble_eq_true rfl⟩) hS (fun q _ h => hFc q h) hFc (fun r2 u t H1 locs ht hvm hw hB hz1 hk1 hS => ?_)
  obtain ⟨hP1, hK1, hD1⟩ := hB
  rw [ht] at hP1
  have hK1 := va_K.moved hvm.symm hK1
  obtain ⟨hP, hD⟩ := va_join (wr := [(a13, .inr (0, [.ref ya8, .int 0])), (ya8, .inl (cA20, 1200, .inl f021)), (a24, .inr (3, [.ref b29, .ref t110, .ref t211, .ref t312, .int 0])), (b29, .inr (0, [.ref yb13, .int 0])), (a35, .inr (1, [.ref h114, .ref h215, .ref h316, .int 0, .int 0, .int 0])), (m124, .inl (cI40, 1200, .inl f041))]) (w1 := []) hP hD [5] [0, 1, 2, 3, 4, 6] rfl rfl (by decide) (by decide) hk1 hFc hP1 hD1
  have hK := (hK.sub (tys' := [(cA20, .byte), (cI40, .int)]) [0, 1] rfl).app hK1
  generalize H1 = H at hP hS ⊢
  have hP : va_P (dC, dI) vwCl [(a13, .inr (0, [.ref ya8, .int 0])), (ya8, .inl (cA20, 1200, .inl f021)), (a24, .inr (3, [.ref b29, .ref t110, .ref t211, .ref t312, .int 0])), (b29, .inr (0, [.ref yb13, .int 0])), (a35, .inr (1, [.ref h114, .ref h215, .ref h316, .int 0, .int 0, .int 0])), (m124, .inl (cI40, 1200, .inl f041))] H := hP
  have hD : va_D (fun q : Nat => s.heap.size ≤ q) [(a13, .inr (0, [.ref ya8, .int 0])), (ya8, .inl (cA20, 1200, .inl f021)), (a24, .inr (3, [.ref b29, .ref t110, .ref t211, .ref t312, .int 0])), (b29, .inr (0, [.ref yb13, .int 0])), (a35, .inr (1, [.ref h114, .ref h215, .ref h316, .int 0, .int 0, .int 0])), (m124, .inl (cI40, 1200, .inl f041))] := hD
  have hK : va_K (dC, dI) vwCl [(cA20, .byte), (cI40, .int)] s := hK
  have hw : r2 = (-4) := hw
  subst hw
  refine lv_icmp_eq (tgt := 600) hx hb dL_law_595 (by decide) (fun c_595 => ?_) (fun c_595 => absurd (rfl) c_595)
  exact law_end C0 hS (lv_sub hl [3, 0] rfl)
