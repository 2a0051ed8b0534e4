set_option maxHeartbeats 4000000 in
set_option maxRecDepth 100000 in
theorem whole_start {p : Program} {e : Env} {s : State} {m : MethodId} {below : List Frame} {meth : Method} {c : Code} (l : Launch) (hflags : l.flags = flags0) {b L : Nat} {xs : Nat → Int32} (hL : L ≤ 4) (C0 : lw_At p s m meth c b L xs) : W p l e room_1 s m #[Value.ref b] below meth c s.heap [] 0 0 (lw_Z below #[Value.ref b] s) (entryFrame m ([Value.ref b] : List Value).toArray 4) := by
  obtain ⟨hx, hb, hr, hml, hown0, hts0, hX, hbl, hlocks, hgv⟩ := id C0
  have hown : s.vm.findClass RL = some m.cls := hown0
  have hts : ∀ w ∈ pwAll, w.before #[Value.ref b] s = true := fun w h => hts0 w (pwAll_in w h)
  have hA : ∀ q : Nat, s.heap.size ≤ q → (fun q : Nat => s.heap.size ≤ q) q := fun _ h => h
  have hbA : ¬ (fun q : Nat => s.heap.size ≤ q) b := Nat.not_le.mpr hbl
  obtain ⟨c0, iS0, hKn0⟩ := u_known (C := RX0) (T := TX0) (N := 2) (n := 2) hts inAll_0 (hts (.instantiable RX0 2) k_18)
  obtain ⟨c1, iS1, hKn1⟩ := u_known (C := RX1) (T := TX1) (N := 6) (n := 6) hts inAll_1 (hts (.instantiable RX1 6) k_69)
  obtain ⟨c2, iS2, hKn2⟩ := u_known (C := RX2) (T := TX2) (N := 5) (n := 5) hts inAll_2 (hts (.instantiable RX2 5) k_76)
  obtain ⟨c3, iS3, hKn3⟩ := u_known (C := RX3) (T := TX3) (N := 5) (n := 5) hts inAll_3 (hts (.instantiable RX3 5) k_62)
  obtain ⟨c4, iS4, hKn4⟩ := u_known (C := RX4) (T := TX4) (N := 3) (n := 3) hts inAll_4 (hts (.instantiable RX4 3) k_25)
  obtain ⟨c5, iS5, hKn5⟩ := u_known (C := RX5) (T := TX5) (N := 3) (n := 3) hts inAll_5 (hts (.instantiable RX5 3) k_83)
  obtain ⟨c6, iS6, hKn6⟩ := u_known (C := RX6) (T := TX6) (N := 7) (n := 7) hts inAll_6 (hts (.instantiable RX6 7) k_187)
  obtain ⟨c7, iS7, hKn7⟩ := u_known (C := RX7) (T := TX7) (N := 29) (n := 29) hts inAll_7 (hts (.instantiable RX7 29) k_192)
  obtain ⟨dC, dI, hKc⟩ : ∃ (dC : Nat → ClassId) (dI : Nat → Nat → Nat), ∀ (k : Nat) (q : vw_C), vwCl[k]? = some q → u_Kn s q.1 q.2.1 q.2.2 (dC k) (dI k) := by
    refine ⟨fun k => if k = 0 then c0 else if k = 1 then c1 else if k = 2 then c2 else if k = 3 then c3 else if k = 4 then c4 else if k = 5 then c5 else if k = 6 then c6 else c7, fun k => if k = 0 then iS0 else if k = 1 then iS1 else if k = 2 then iS2 else if k = 3 then iS3 else if k = 4 then iS4 else if k = 5 then iS5 else if k = 6 then iS6 else iS7, ?_⟩
    intro k q hq
    match k, hq with
    | 0, hq => cases hq; exact hKn0
    | 1, hq => cases hq; exact hKn1
    | 2, hq => cases hq; exact hKn2
    | 3, hq => cases hq; exact hKn3
    | 4, hq => cases hq; exact hKn4
    | 5, hq => cases hq; exact hKn5
    | 6, hq => cases hq; exact hKn6
    | 7, hq => cases hq; exact hKn7
    | k + 8, hq => simp [vwCl] at hq
  have hS : va_S (fun q : Nat => s.heap.size ≤ q) s.heap s.heap [] := va_S.rf
  have hK : va_K (dC, dI) vwCl [] s := ⟨hKc, fun k q h => by simp at h⟩
  have hP : va_P (dC, dI) vwCl [] s.heap := fun k q h => by simp at h
  have hD : va_D (fun q : Nat => s.heap.size ≤ q) [] := ⟨fun i j p q h => by simp at h, fun k q h => by simp at h⟩
  have hl := lv_entry ([.ref b]) (n := 4) (Nat.le_of_ble_eq_true rfl)
  rw [lg_entry_eq]
  generalize (lg_sl ([.ref b]) ++ List.replicate (4 - (lg_sl ([.ref b])).length) Slot.unset).toArray = ls at hl ⊢
  have hl : lv_has ls 4 [(0, .ref b)] := hl
  refine va_new (ci := 6) (fs := [.null, .null, .null, .null, .null, .int 0, .int 0]) (C := RX6) (T := TX6) (N := 7) hx hb hts inAll_6 tyX6 tyX6_ok hown (hts (.classLink RL 7 RX6) k_186) (hts (.instantiable RX6 7) k_187) (hts (.initialized RX6) k_144) hK hP hD hS hA rfl (fun j hj => by rcases (show j = 0 ∨ j = 1 ∨ j = 2 ∨ j = 3 ∨ j = 4 ∨ j = 5 ∨ j = 6 by omega) with rfl | rfl | rfl | rfl | rfl | rfl | rfl <;> rfl) (Nat.le_of_ble_eq_true rfl) (Nat.le_of_ble_eq_true rfl) dL_law_0 (fun q1 H hP hD hS => ?_)
  have hP : va_P (dC, dI) vwCl [(q1, .inr (6, [.null, .null, .null, .null, .null, .int 0, .int 0]))] H := hP
  have hD : va_D (fun q : Nat => s.heap.size ≤ q) [(q1, .inr (6, [.null, .null, .null, .null, .null, .int 0, .int 0]))] := hD
  refine W.widen (k := 1) (n := 7) (Nat.le_of_ble_eq_true rfl) (Nat.le_of_ble_eq_true rfl) ?_
  refine lv_dup hx hb dL_law_3 rfl ?_
  have hPc := hP.sub (ws' := [(q1, .inr (6, [.null, .null, .null, .null, .null, .int 0, .int 0]))]) [0] rfl
  have hDc := hD.sub (ws' := [(q1, .inr (6, [.null, .null, .null, .null, .null, .int 0, .int 0]))]) [0] (by decide) rfl
  have hKc := hK.sub (tys' := []) [] rfl
  have hFc := va_free (wc := [(q1, .inr (6, [.null, .null, .null, .null, .null, .int 0, .int 0]))]) hD hS hA [0] rfl
  refine va_callv (va_runI (As := []) (rest := [.ref q1]) ⟨hx, hb, hml, hown, hts⟩ (c_X6_init l dC dI H.size q1) (cwI 0 hts gg_i_X6_init rfl rfl rfl (hts (.initialized RX6) k_144) (hts (.methodLink RL 9 yX6_init) k_189) (hts (.instanceMethod yX6_init) k_190) rfl (by decide +kernel) ⟨Nat.le_of_ble_eq_true rfl, Nat.le_of_ble_eq_true rfl⟩) ⟨fun a U g mk q => by obtain ⟨q0, q1, qP, qK, qD⟩ := q; exact ⟨q0, q1, qP, va_K.moved (u := U) (U := U.calling g mk a) (Vm.Alike.refl U.vm) qK, qD⟩, fun U hU hW => ⟨rfl, by rw [hU], by rw [hU]; exact hPc, va_K.moved hW.alike hKc, hDc.weaken (fun _ _ _ _ => trivial)⟩⟩ rfl rfl hl.1 rfl (lv_room (Nat.le_of_ble_eq_true rfl)) dL_law_4 ⟨Nat.le_of_ble_eq_true rfl, Nat.le_of_ble_eq_true rfl⟩) hS (fun q _ h => hFc q h) hFc (fun u t H1 locs ht hvm hw hB hz1 hk1 hS => ?_)
  obtain ⟨a13, a24, a35, a46, a57, ya8, b29, t110, t211, t312, yb13, h114, h215, h316, h417, b518, yc19, cA20, f021, hP1, hK1, hD1⟩ := hB
  rw [ht] at hP1
  have hK1 := va_K.moved hvm.symm hK1
  obtain ⟨hP, hD⟩ := va_join (wr := []) (w1 := [(q1, .inr (6, [.ref a13, .ref a24, .ref a35, .ref a46, .ref a57, .int (-1), .int 0])), (a13, .inr (0, [.ref ya8, .int 0])), (ya8, .inl (cA20, 1200, .inl f021)), (a24, .inr (3, [.ref b29, .ref t110, .ref t211, .ref t312, .int 0])), (b29, .inr (0, [.ref yb13, .int 0])), (a35, .inr (1, [.ref h114, .ref h215, .ref h316, .int 0, .int 0, .int 0])), (a57, .inr (5, [.ref h417, .ref b518, .int 0])), (b518, .inr (0, [.ref yc19, .int 0]))]) hP hD [0] [] rfl rfl (by decide) (by decide) hk1 hFc hP1 hD1
  have hK := (hK.sub (tys' := []) [] rfl).app hK1
  generalize H1 = H at hP hS ⊢
  have hP : va_P (dC, dI) vwCl [(q1, .inr (6, [.ref a13, .ref a24, .ref a35, .ref a46, .ref a57, .int (-1), .int 0])), (a13, .inr (0, [.ref ya8, .int 0])), (ya8, .inl (cA20, 1200, .inl f021)), (a24, .inr (3, [.ref b29, .ref t110, .ref t211, .ref t312, .int 0])), (b29, .inr (0, [.ref yb13, .int 0])), (a35, .inr (1, [.ref h114, .ref h215, .ref h316, .int 0, .int 0, .int 0])), (a57, .inr (5, [.ref h417, .ref b518, .int 0])), (b518, .inr (0, [.ref yc19, .int 0]))] H := hP
  have hD : va_D (fun q : Nat => s.heap.size ≤ q) [(q1, .inr (6, [.ref a13, .ref a24, .ref a35, .ref a46, .ref a57, .int (-1), .int 0])), (a13, .inr (0, [.ref ya8, .int 0])), (ya8, .inl (cA20, 1200, .inl f021)), (a24, .inr (3, [.ref b29, .ref t110, .ref t211, .ref t312, .int 0])), (b29, .inr (0, [.ref yb13, .int 0])), (a35, .inr (1, [.ref h114, .ref h215, .ref h316, .int 0, .int 0, .int 0])), (a57, .inr (5, [.ref h417, .ref b518, .int 0])), (b518, .inr (0, [.ref yc19, .int 0]))] := hD
  have hK : va_K (dC, dI) vwCl [(cA20, .byte)] s := hK
  refine W.widen (k := 23) (n := 6838) (Nat.le_of_ble_eq_true rfl) (Nat.le_of_ble_eq_true rfl) ?_
  refine lv_astore_n (lv' := [(1, .ref q1), (0, .ref b)]) hx hb dL_law_7 rfl hl (by decide) rfl (fun ls hl => ?_)
  refine va_new (ci := 7) (fs := [.int 0, .null, .int 0, .int 0, .int 0, .int 0, .int 0, .null, .int 0, .int 0, .null, .null, .null, .null, .null, .null, .null, .int 0, .null, .null, .null, .int 0, .null, .null, .null, .int 0, .null, .int 0, .int 0]) (C := RX7) (T := TX7) (N := 29) hx hb hts inAll_7 tyX7 tyX7_ok hown (hts (.classLink RL 10 RX7) k_191) (hts (.instantiable RX7 29) k_192) (hts (.initialized RX7) k_174) hK hP hD hS hA rfl (fun j hj => by rcases (show j = 0 ∨ j = 1 ∨ j = 2 ∨ j = 3 ∨ j = 4 ∨ j = 5 ∨ j = 6 ∨ j = 7 ∨ j = 8 ∨ j = 9 ∨ j = 10 ∨ j = 11 ∨ j = 12 ∨ j = 13 ∨ j = 14 ∨ j = 15 ∨ j = 16 ∨ j = 17 ∨ j = 18 ∨ j = 19 ∨ j = 20 ∨ j = 21 ∨ j = 22 ∨ j = 23 ∨ j = 24 ∨ j = 25 ∨ j = 26 ∨ j = 27 ∨ j = 28 by omega) with rfl | rfl | rfl | rfl | rfl | rfl | rfl | rfl | rfl | rfl | rfl | rfl | rfl | rfl | rfl | rfl | rfl | rfl | rfl | rfl | rfl | rfl | rfl | rfl | rfl | rfl | rfl | rfl | rfl <;> rfl) (Nat.le_of_ble_eq_true rfl) (Nat.le_of_ble_eq_true rfl) dL_law_8 (fun q22 H hP hD hS => ?_)
  have hP : va_P (dC, dI) vwCl [(q1, .inr (6, [.ref a13, .ref a24, .ref a35, .ref a46, .ref a57, .int (-1), .int 0])), (a13, .inr (0, [.ref ya8, .int 0])), (ya8, .inl (cA20, 1200, .inl f021)), (a24, .inr (3, [.ref b29, .ref t110, .ref t211, .ref t312, .int 0])), (b29, .inr (0, [.ref yb13, .int 0])), (a35, .inr (1, [.ref h114, .ref h215, .ref h316, .int 0, .int 0, .int 0])), (a57, .inr (5, [.ref h417, .ref b518, .int 0])), (b518, .inr (0, [.ref yc19, .int 0])), (q22, .inr (7, [.int 0, .null, .int 0, .int 0, .int 0, .int 0, .int 0, .null, .int 0, .int 0, .null, .null, .null, .null, .null, .null, .null, .int 0, .null, .null, .null, .int 0, .null, .null, .null, .int 0, .null, .int 0, .int 0]))] H := hP
  have hD : va_D (fun q : Nat => s.heap.size ≤ q) [(q1, .inr (6, [.ref a13, .ref a24, .ref a35, .ref a46, .ref a57, .int (-1), .int 0])), (a13, .inr (0, [.ref ya8, .int 0])), (ya8, .inl (cA20, 1200, .inl f021)), (a24, .inr (3, [.ref b29, .ref t110, .ref t211, .ref t312, .int 0])), (b29, .inr (0, [.ref yb13, .int 0])), (a35, .inr (1, [.ref h114, .ref h215, .ref h316, .int 0, .int 0, .int 0])), (a57, .inr (5, [.ref h417, .ref b518, .int 0])), (b518, .inr (0, [.ref yc19, .int 0])), (q22, .inr (7, [.int 0, .null, .int 0, .int 0, .int 0, .int 0, .int 0, .null, .int 0, .int 0, .null, .null, .null, .null, .null, .null, .null, .int 0, .null, .null, .null, .int 0, .null, .null, .null, .int 0, .null, .int 0, .int 0]))] := hD
  refine W.widen (k := 24) (n := 6867) (Nat.le_of_ble_eq_true rfl) (Nat.le_of_ble_eq_true rfl) ?_
  refine lv_dup hx hb dL_law_11 rfl ?_
  have hPc := hP.sub (ws' := [(q22, .inr (7, [.int 0, .null, .int 0, .int 0, .int 0, .int 0, .int 0, .null, .int 0, .int 0, .null, .null, .null, .null, .null, .null, .null, .int 0, .null, .null, .null, .int 0, .null, .null, .null, .int 0, .null, .int 0, .int 0]))]) [8] rfl
  have hDc := hD.sub (ws' := [(q22, .inr (7, [.int 0, .null, .int 0, .int 0, .int 0, .int 0, .int 0, .null, .int 0, .int 0, .null, .null, .null, .null, .null, .null, .null, .int 0, .null, .null, .null, .int 0, .null, .null, .null, .int 0, .null, .int 0, .int 0]))]) [8] (by decide) rfl
  have hKc := hK.sub (tys' := []) [] rfl
  have hFc := va_free (wc := [(q22, .inr (7, [.int 0, .null, .int 0, .int 0, .int 0, .int 0, .int 0, .null, .int 0, .int 0, .null, .null, .null, .null, .null, .null, .null, .int 0, .null, .null, .null, .int 0, .null, .null, .null, .int 0, .null, .int 0, .int 0]))]) hD hS hA [8] rfl
  refine va_callv (va_runI (As := []) (rest := [.ref q22]) ⟨hx, hb, hml, hown, hts⟩ (c_X7_init l dC dI H.size q22) (cwI 0 hts gg_i_X7_init rfl rfl rfl (hts (.initialized RX7) k_174) (hts (.methodLink RL 12 yX7_init) k_194) (hts (.instanceMethod yX7_init) k_195) rfl (by decide +kernel) ⟨Nat.le_of_ble_eq_true rfl, Nat.le_of_ble_eq_true rfl⟩) ⟨fun a U g mk q => by obtain ⟨q0, q1, qP, qK, qD⟩ := q; exact ⟨q0, q1, qP, va_K.moved (u := U) (U := U.calling g mk a) (Vm.Alike.refl U.vm) qK, qD⟩, fun U hU hW => ⟨rfl, by rw [hU], by rw [hU]; exact hPc, va_K.moved hW.alike hKc, hDc.weaken (fun _ _ _ _ => trivial)⟩⟩ rfl rfl hl.1 rfl (lv_room (Nat.le_of_ble_eq_true rfl)) dL_law_12 ⟨Nat.le_of_ble_eq_true rfl, Nat.le_of_ble_eq_true rfl⟩) hS (fun q _ h => hFc q h) hFc (fun u t H1 locs ht hvm hw hB hz1 hk1 hS => ?_)
  obtain ⟨m124, m225, m326, m427, m528, m629, m730, m831, m932, m1033, m1134, m1235, m1336, m1437, m1538, m1639, cI40, f041, hP1, hK1, hD1⟩ := hB
  rw [ht] at hP1
  have hK1 := va_K.moved hvm.symm hK1
  obtain ⟨hP, hD⟩ := va_join (wr := [(q1, .inr (6, [.ref a13, .ref a24, .ref a35, .ref a46, .ref a57, .int (-1), .int 0])), (a13, .inr (0, [.ref ya8, .int 0])), (ya8, .inl (cA20, 1200, .inl f021)), (a24, .inr (3, [.ref b29, .ref t110, .ref t211, .ref t312, .int 0])), (b29, .inr (0, [.ref yb13, .int 0])), (a35, .inr (1, [.ref h114, .ref h215, .ref h316, .int 0, .int 0, .int 0])), (a57, .inr (5, [.ref h417, .ref b518, .int 0])), (b518, .inr (0, [.ref yc19, .int 0]))]) (w1 := [(q22, .inr (7, [.int 0, .ref m124, .int 0, .int (-1), .int 0, .int 0, .int 0, .ref m225, .int 0, .int 0, .ref m326, .ref m427, .ref m528, .ref m629, .ref m730, .ref m831, .ref m932, .int 0, .ref m1033, .ref m1134, .ref m1235, .int 0, .ref m1336, .ref m1437, .ref m1538, .int 0, .ref m1639, .int 0, .int 0])), (m124, .inl (cI40, 1200, .inl f041))]) hP hD [8] [0, 1, 2, 3, 4, 5, 6, 7] rfl rfl (by decide) (by decide) hk1 hFc hP1 hD1
  have hK := (hK.sub (tys' := [(cA20, .byte)]) [0] rfl).app hK1
  generalize H1 = H at hP hS ⊢
  have hP : va_P (dC, dI) vwCl [(q1, .inr (6, [.ref a13, .ref a24, .ref a35, .ref a46, .ref a57, .int (-1), .int 0])), (a13, .inr (0, [.ref ya8, .int 0])), (ya8, .inl (cA20, 1200, .inl f021)), (a24, .inr (3, [.ref b29, .ref t110, .ref t211, .ref t312, .int 0])), (b29, .inr (0, [.ref yb13, .int 0])), (a35, .inr (1, [.ref h114, .ref h215, .ref h316, .int 0, .int 0, .int 0])), (a57, .inr (5, [.ref h417, .ref b518, .int 0])), (b518, .inr (0, [.ref yc19, .int 0])), (q22, .inr (7, [.int 0, .ref m124, .int 0, .int (-1), .int 0, .int 0, .int 0, .ref m225, .int 0, .int 0, .ref m326, .ref m427, .ref m528, .ref m629, .ref m730, .ref m831, .ref m932, .int 0, .ref m1033, .ref m1134, .ref m1235, .int 0, .ref m1336, .ref m1437, .ref m1538, .int 0, .ref m1639, .int 0, .int 0])), (m124, .inl (cI40, 1200, .inl f041))] H := hP
  have hD : va_D (fun q : Nat => s.heap.size ≤ q) [(q1, .inr (6, [.ref a13, .ref a24, .ref a35, .ref a46, .ref a57, .int (-1), .int 0])), (a13, .inr (0, [.ref ya8, .int 0])), (ya8, .inl (cA20, 1200, .inl f021)), (a24, .inr (3, [.ref b29, .ref t110, .ref t211, .ref t312, .int 0])), (b29, .inr (0, [.ref yb13, .int 0])), (a35, .inr (1, [.ref h114, .ref h215, .ref h316, .int 0, .int 0, .int 0])), (a57, .inr (5, [.ref h417, .ref b518, .int 0])), (b518, .inr (0, [.ref yc19, .int 0])), (q22, .inr (7, [.int 0, .ref m124, .int 0, .int (-1), .int 0, .int 0, .int 0, .ref m225, .int 0, .int 0, .ref m326, .ref m427, .ref m528, .ref m629, .ref m730, .ref m831, .ref m932, .int 0, .ref m1033, .ref m1134, .ref m1235, .int 0, .ref m1336, .ref m1437, .ref m1538, .int 0, .ref m1639, .int 0, .int 0])), (m124, .inl (cI40, 1200, .inl f041))] := hD
  have hK : va_K (dC, dI) vwCl [(cA20, .byte), (cI40, .int)] s := hK
  refine W.widen (k := 40) (n := 14459) (Nat.le_of_ble_eq_true rfl) (Nat.le_of_ble_eq_true rfl) ?_
  refine lv_astore_n (lv' := [(2, .ref q22), (1, .ref q1), (0, .ref b)]) hx hb dL_law_15 rfl hl (by decide) rfl (fun ls hl => ?_)
  refine lv_iconst (v := 0) hx hb dL_law_16 (by decide) ?_
  refine lv_istore_n (lv' := [(3, .int 0), (2, .ref q22), (1, .ref q1), (0, .ref b)]) hx hb dL_law_17 rfl hl (by decide) rfl (fun ls hl => ?_)
  by_cases hL4 : L = 4
  · subst hL4
    refine lv_iload_n hx hb dL_law_18 rfl (lv_at hl 0 rfl) ?_
    refine lv_aload_n hx hb dL_law_19 rfl (lv_at hl 3 rfl) ?_
    refine va_slen hx hb hX hbl hbA hS dL_law_20 ?_
    refine lv_iconst (v := 4) hx hb dL_law_21 (by decide) ?_
    refine lv_isub hx hb dL_law_22 ?_
    refine pf_top (y := 0) (by decide) ?_
    refine lv_icmp_gt (tgt := 606) hx hb dL_law_23 (by decide) (fun c_23 => absurd c_23 (by decide)) (fun c_23 => ?_)
    refine lv_aload_n hx hb dL_law_26 rfl (lv_at hl 3 rfl) ?_
    refine lv_iload_n hx hb dL_law_27 rfl (lv_at hl 0 rfl) ?_
    refine va_sld hx hb hX hbl hbA hS pf_i0 dL_law_28 ?_
    refine lv_bipush (v := 15) hx hb dL_law_29 (by decide) ?_
    refine lv_iand hx hb dL_law_31 ?_
    obtain ⟨j, hj, ej⟩ := pk_andE (xs (0 : Int32).toNatClampNeg) (m := 15) 4 (by decide)
    refine pf_top (y := nI j) ej ?_
    have hj : j < 16 := hj
    rcases (show j = 0 ∨ j = 1 ∨ j = 2 ∨ j = 3 ∨ j = 4 ∨ j = 5 ∨ j = 6 ∨ j = 7 ∨ j = 8 ∨ j = 9 ∨ j = 10 ∨ j = 11 ∨ j = 12 ∨ j = 13 ∨ j = 14 ∨ j = 15 by omega) with rfl | rfl | rfl | rfl | rfl | rfl | rfl | rfl | rfl | rfl | rfl | rfl | rfl | rfl | rfl | rfl
    · refine lv_tableIn (off := 80) (tgt := 112) hx hb dL_law_32 (by decide) (by decide) rfl (by decide) ?_
      exact law_feed C0 hK hP hD hS hl
    · refine lv_tableIn (off := 143) (tgt := 175) hx hb dL_law_32 (by decide) (by decide) rfl (by decide) ?_
      exact law_set C0 hK hP hD hS hl
    · refine lv_tableIn (off := 176) (tgt := 208) hx hb dL_law_32 (by decide) (by decide) rfl (by decide) ?_
      exact law_cut C0 hK hP hD hS hl
    · refine lv_tableIn (off := 199) (tgt := 231) hx hb dL_law_32 (by decide) (by decide) rfl (by decide) ?_
      exact law_read C0 hK hP hD hS hl
    · refine lv_tableIn (off := 212) (tgt := 244) hx hb dL_law_32 (by decide) (by decide) rfl (by decide) ?_
      exact law_where C0 hK hP hD hS hl
    · refine lv_tableIn (off := 225) (tgt := 257) hx hb dL_law_32 (by decide) (by decide) rfl (by decide) ?_
      exact law_count C0 hK hP hD hS hl
    · refine lv_tableIn (off := 248) (tgt := 280) hx hb dL_law_32 (by decide) (by decide) rfl (by decide) ?_
      exact law_group C0 hK hP hD hS hl
    · refine lv_tableIn (off := 281) (tgt := 313) hx hb dL_law_32 (by decide) (by decide) rfl (by decide) ?_
      exact law_setOf C0 hK hP hD hS hl
    · refine lv_tableIn (off := 314) (tgt := 346) hx hb dL_law_32 (by decide) (by decide) rfl (by decide) ?_
      exact law_fault C0 hK hP hD hS hl
    · refine lv_tableIn (off := 357) (tgt := 389) hx hb dL_law_32 (by decide) (by decide) rfl (by decide) ?_
      exact law_level C0 hK hP hD hS hl
    · refine lv_tableIn (off := 400) (tgt := 432) hx hb dL_law_32 (by decide) (by decide) rfl (by decide) ?_
      exact law_claim C0 hK hP hD hS hl
    · refine lv_tableIn (off := 443) (tgt := 475) hx hb dL_law_32 (by decide) (by decide) rfl (by decide) ?_
      exact law_size C0 hK hP hD hS hl
    · refine lv_tableIn (off := 476) (tgt := 508) hx hb dL_law_32 (by decide) (by decide) rfl (by decide) ?_
      exact law_byteOf C0 hK hP hD hS hl
    · refine lv_tableIn (off := 519) (tgt := 551) hx hb dL_law_32 (by decide) (by decide) rfl (by decide) ?_
      exact law_answer C0 hK hP hD hS hl
    · refine lv_tableIn (off := 532) (tgt := 564) hx hb dL_law_32 (by decide) (by decide) rfl (by decide) ?_
      exact law_answered C0 hK hP hD hS hl
    · refine lv_tableIn (off := 555) (tgt := 587) hx hb dL_law_32 (by decide) (by decide) rfl (by decide) ?_
      exact law_turn C0 hK hP hD hS hl
  · skip
    refine lv_iload_n hx hb dL_law_18 rfl (lv_at hl 0 rfl) ?_
    refine lv_aload_n hx hb dL_law_19 rfl (lv_at hl 3 rfl) ?_
    refine va_slen hx hb hX hbl hbA hS dL_law_20 ?_
    refine lv_iconst (v := 4) hx hb dL_law_21 (by decide) ?_
    refine lv_isub hx hb dL_law_22 ?_
    refine lv_icmp_gt (tgt := 606) hx hb dL_law_23 (by decide) (fun c_23 => ?_) (fun c_23 => absurd (pf_short hL hL4) c_23)
    refine lv_iconst (v := 1) hx hb dL_law_606 (by decide) ?_
    refine va_forget (fun q hq => hS.2.2 q hq) ?_
    refine W.widen (k := 600000) (n := 7302250) (Nat.le_of_ble_eq_true rfl) (Nat.le_of_ble_eq_true rfl) ?_
    exact lw_ret hx hb hr hlocks dL_law_607
