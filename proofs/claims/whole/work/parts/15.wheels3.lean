set_option maxHeartbeats 4000000 in
set_option maxRecDepth 100000 in
theorem c_X3_clear (l : Launch) (dC : Nat → ClassId) (dI : Nat → Nat → Nat) (cI cJ cS : ClassId) (sz : Nat) (h3 hk hw hs : Nat) (n h rg sp : Nat) (kf wf sf : Nat → Int32) : Met l yX3_clear wsX3_clear ({ frames := 0, cells := 0, slots := 0, locals := 0 }) (va_Pc [.ref h3] (rW (dC, dI) vwCl [(h3, .inr (3, [.int (nI n), .int (nI h), .int (nI rg), .int (nI sp), .ref hk, .ref hw, .ref hs])), (hk, .inl (cI, 6, .inl kf)), (hw, .inl (cI, 6, .inl wf)), (hs, .inl (cI, 6, .inl sf))] (tyz cI cJ cS) sz)) (qV (dC, dI) vwCl [(h3, .inr (3, [.int (nI 0), .int (nI 0), .int (nI 1), .int (nI 1), .ref hk, .ref hw, .ref hs])), (hk, .inl (cI, 6, .inl kf)), (hw, .inl (cI, 6, .inl wf)), (hs, .inl (cI, 6, .inl sf))] (va_A [(h3, .inr (3, [.int (nI n), .int (nI h), .int (nI rg), .int (nI sp), .ref hk, .ref hw, .ref hs])), (hk, .inl (cI, 6, .inl kf)), (hw, .inl (cI, 6, .inl wf)), (hs, .inl (cI, 6, .inl sf))] sz)) 0 0 (va_A [(h3, .inr (3, [.int (nI n), .int (nI h), .int (nI rg), .int (nI sp), .ref hk, .ref hw, .ref hs])), (hk, .inl (cI, 6, .inl kf)), (hw, .inl (cI, 6, .inl wf)), (hs, .inl (cI, 6, .inl sf))] sz) := by
  refine Met.ofW (cc := cX3_clear) (maxL := 1) (ret := none) (by decide) rfl ?_
  intro p e s m args below meth c s₁ B hml hv
  obtain ⟨rfl, hsz, hP, hKK, hD0⟩ := hv
  have hK := hKK.1
  have hx := B.exec
  have hb := B.bytes
  have hr := B.returns
  have hts := atoms_spec (ws := wsX3_clear) B.pre
  have hown : s.vm.findClass RX3 = some m.cls := findClass_of_methodNamed B.named
  have hlocks := B.notSynchronized
  subst hsz
  have hD := hD0.self (sz := s.heap.size)
  generalize hAe : va_A [(h3, .inr (3, [.int (nI n), .int (nI h), .int (nI rg), .int (nI sp), .ref hk, .ref hw, .ref hs])), (hk, .inl (cI, 6, .inl kf)), (hw, .inl (cI, 6, .inl wf)), (hs, .inl (cI, 6, .inl sf))] s.heap.size = A at hD ⊢
  have hA : ∀ q : Nat, s.heap.size ≤ q → A q := fun q h => by rw [← hAe]; exact Or.inr h
  have hS : va_S A s.heap s.heap [] := va_S.rf
  have hP : va_P (dC, dI) vwCl [(h3, .inr (3, [.int (nI n), .int (nI h), .int (nI rg), .int (nI sp), .ref hk, .ref hw, .ref hs])), (hk, .inl (cI, 6, .inl kf)), (hw, .inl (cI, 6, .inl wf)), (hs, .inl (cI, 6, .inl sf))] s.heap := hP
  have hiX3 : ∀ w ∈ wsX30, w ∈ wsX3_clear := by decide +kernel
  have hl := lv_entry ([.ref h3]) (n := 1) (Nat.le_of_ble_eq_true rfl)
  rw [lg_entry_eq]
  generalize (lg_sl ([.ref h3]) ++ List.replicate (1 - (lg_sl ([.ref h3])).length) Slot.unset).toArray = ls at hl ⊢
  have hl : lv_has ls 1 [(0, .ref h3)] := hl
  refine lv_aload_n hx hb dX3_clear_0 rfl (lv_at hl 0 rfl) ?_
  refine lv_iconst (v := (nI 0)) hx hb dX3_clear_1 (by decide) ?_
  refine va_put (D := (dC, dI)) (ci := 3) (v := .int (nI 0)) (ty := .int) (C := RX3) (T := TX3) (N := 7) hx hb hts hiX3 tyX3 tyX3_ok nmX3 hown hK hP hD hS 0 rfl rfl 0 (by decide) (hts (.fieldLink RX3 28 "RestRegisters$Wheels" "size" "I") (by decide +kernel)) (fun _ h9 => h9) rfl (by decide +kernel) rfl rfl (Nat.le_of_ble_eq_true rfl) dX3_clear_2 (fun H locs hP hD hS => ?_)
  have hP : va_P (dC, dI) vwCl [(h3, .inr (3, [.int (nI 0), .int (nI h), .int (nI rg), .int (nI sp), .ref hk, .ref hw, .ref hs])), (hk, .inl (cI, 6, .inl kf)), (hw, .inl (cI, 6, .inl wf)), (hs, .inl (cI, 6, .inl sf))] H := hP
  have hD : va_D A [(h3, .inr (3, [.int (nI 0), .int (nI h), .int (nI rg), .int (nI sp), .ref hk, .ref hw, .ref hs])), (hk, .inl (cI, 6, .inl kf)), (hw, .inl (cI, 6, .inl wf)), (hs, .inl (cI, 6, .inl sf))] := hD
  refine lv_aload_n hx hb dX3_clear_5 rfl (lv_at hl 0 rfl) ?_
  refine lv_iconst (v := (nI 0)) hx hb dX3_clear_6 (by decide) ?_
  refine va_put (D := (dC, dI)) (ci := 3) (v := .int (nI 0)) (ty := .int) (C := RX3) (T := TX3) (N := 7) hx hb hts hiX3 tyX3 tyX3_ok nmX3 hown hK hP hD hS 0 rfl rfl 1 (by decide) (hts (.fieldLink RX3 31 "RestRegisters$Wheels" "honest" "I") (by decide +kernel)) (fun _ h9 => h9) rfl (by decide +kernel) rfl rfl (Nat.le_of_ble_eq_true rfl) dX3_clear_7 (fun H locs hP hD hS => ?_)
  have hP : va_P (dC, dI) vwCl [(h3, .inr (3, [.int (nI 0), .int (nI 0), .int (nI rg), .int (nI sp), .ref hk, .ref hw, .ref hs])), (hk, .inl (cI, 6, .inl kf)), (hw, .inl (cI, 6, .inl wf)), (hs, .inl (cI, 6, .inl sf))] H := hP
  have hD : va_D A [(h3, .inr (3, [.int (nI 0), .int (nI 0), .int (nI rg), .int (nI sp), .ref hk, .ref hw, .ref hs])), (hk, .inl (cI, 6, .inl kf)), (hw, .inl (cI, 6, .inl wf)), (hs, .inl (cI, 6, .inl sf))] := hD
  refine lv_aload_n hx hb dX3_clear_10 rfl (lv_at hl 0 rfl) ?_
  refine lv_iconst (v := (nI 1)) hx hb dX3_clear_11 (by decide) ?_
  refine va_put (D := (dC, dI)) (ci := 3) (v := .int (nI 1)) (ty := .int) (C := RX3) (T := TX3) (N := 7) hx hb hts hiX3 tyX3 tyX3_ok nmX3 hown hK hP hD hS 0 rfl rfl 2 (by decide) (hts (.fieldLink RX3 9 "RestRegisters$Wheels" "range" "I") (by decide +kernel)) (fun _ h9 => h9) rfl (by decide +kernel) rfl rfl (Nat.le_of_ble_eq_true rfl) dX3_clear_12 (fun H locs hP hD hS => ?_)
  have hP : va_P (dC, dI) vwCl [(h3, .inr (3, [.int (nI 0), .int (nI 0), .int (nI 1), .int (nI sp), .ref hk, .ref hw, .ref hs])), (hk, .inl (cI, 6, .inl kf)), (hw, .inl (cI, 6, .inl wf)), (hs, .inl (cI, 6, .inl sf))] H := hP
  have hD : va_D A [(h3, .inr (3, [.int (nI 0), .int (nI 0), .int (nI 1), .int (nI sp), .ref hk, .ref hw, .ref hs])), (hk, .inl (cI, 6, .inl kf)), (hw, .inl (cI, 6, .inl wf)), (hs, .inl (cI, 6, .inl sf))] := hD
  refine lv_aload_n hx hb dX3_clear_15 rfl (lv_at hl 0 rfl) ?_
  refine lv_iconst (v := (nI 1)) hx hb dX3_clear_16 (by decide) ?_
  refine va_put (D := (dC, dI)) (ci := 3) (v := .int (nI 1)) (ty := .int) (C := RX3) (T := TX3) (N := 7) hx hb hts hiX3 tyX3 tyX3_ok nmX3 hown hK hP hD hS 0 rfl rfl 3 (by decide) (hts (.fieldLink RX3 15 "RestRegisters$Wheels" "span" "I") (by decide +kernel)) (fun _ h9 => h9) rfl (by decide +kernel) rfl rfl (Nat.le_of_ble_eq_true rfl) dX3_clear_17 (fun H locs hP hD hS => ?_)
  have hP : va_P (dC, dI) vwCl [(h3, .inr (3, [.int (nI 0), .int (nI 0), .int (nI 1), .int (nI 1), .ref hk, .ref hw, .ref hs])), (hk, .inl (cI, 6, .inl kf)), (hw, .inl (cI, 6, .inl wf)), (hs, .inl (cI, 6, .inl sf))] H := hP
  have hD : va_D A [(h3, .inr (3, [.int (nI 0), .int (nI 0), .int (nI 1), .int (nI 1), .ref hk, .ref hw, .ref hs])), (hk, .inl (cI, 6, .inl kf)), (hw, .inl (cI, 6, .inl wf)), (hs, .inl (cI, 6, .inl sf))] := hD
  exact rr_vretW hx hb hr hlocks dX3_clear_20 hP hD hS
set_option maxHeartbeats 4000000 in
set_option maxRecDepth 100000 in
theorem c_X3_append_f (l : Launch) (dC : Nat → ClassId) (dI : Nat → Nat → Nat) (cI cJ cS : ClassId) (sz : Nat) (h3 hk hw hs : Nat) (n h rg sp : Nat) (kf wf sf : Nat → Int32) (kd x : Nat) (hn5 : n < 6) : Met l yX3_append wsX3_append ({ frames := 0, cells := 0, slots := 0, locals := 0 }) (va_Pc [.ref h3, .int (nI kd), .int (nI x), .int (bi false)] (rW (dC, dI) vwCl [(h3, .inr (3, [.int (nI n), .int (nI h), .int (nI rg), .int (nI sp), .ref hk, .ref hw, .ref hs])), (hk, .inl (cI, 6, .inl kf)), (hw, .inl (cI, 6, .inl wf)), (hs, .inl (cI, 6, .inl sf))] (tyz cI cJ cS) sz)) (qV (dC, dI) vwCl [(h3, .inr (3, [.int (nI (n + 1)), .int (nI (h + 1)), .int (nI (rg * x)), .int (nI (sp * x)), .ref hk, .ref hw, .ref hs])), (hk, .inl (cI, 6, .inl (upd kf n (nI kd)))), (hw, .inl (cI, 6, .inl (upd wf n (nI x)))), (hs, .inl (cI, 6, .inl sf))] (va_A [(h3, .inr (3, [.int (nI n), .int (nI h), .int (nI rg), .int (nI sp), .ref hk, .ref hw, .ref hs])), (hk, .inl (cI, 6, .inl kf)), (hw, .inl (cI, 6, .inl wf)), (hs, .inl (cI, 6, .inl sf))] sz)) 0 0 (va_A [(h3, .inr (3, [.int (nI n), .int (nI h), .int (nI rg), .int (nI sp), .ref hk, .ref hw, .ref hs])), (hk, .inl (cI, 6, .inl kf)), (hw, .inl (cI, 6, .inl wf)), (hs, .inl (cI, 6, .inl sf))] sz) := by
  refine Met.ofW (cc := cX3_append) (maxL := 4) (ret := none) (by decide) rfl ?_
  intro p e s m args below meth c s₁ B hml hv
  obtain ⟨rfl, hsz, hP, hKK, hD0⟩ := hv
  have hK := hKK.1
  have hx := B.exec
  have hb := B.bytes
  have hr := B.returns
  have hts := atoms_spec (ws := wsX3_append) B.pre
  have hown : s.vm.findClass RX3 = some m.cls := findClass_of_methodNamed B.named
  have hlocks := B.notSynchronized
  subst hsz
  have hD := hD0.self (sz := s.heap.size)
  generalize hAe : va_A [(h3, .inr (3, [.int (nI n), .int (nI h), .int (nI rg), .int (nI sp), .ref hk, .ref hw, .ref hs])), (hk, .inl (cI, 6, .inl kf)), (hw, .inl (cI, 6, .inl wf)), (hs, .inl (cI, 6, .inl sf))] s.heap.size = A at hD ⊢
  have hA : ∀ q : Nat, s.heap.size ≤ q → A q := fun q h => by rw [← hAe]; exact Or.inr h
  have hS : va_S A s.heap s.heap [] := va_S.rf
  have hP : va_P (dC, dI) vwCl [(h3, .inr (3, [.int (nI n), .int (nI h), .int (nI rg), .int (nI sp), .ref hk, .ref hw, .ref hs])), (hk, .inl (cI, 6, .inl kf)), (hw, .inl (cI, 6, .inl wf)), (hs, .inl (cI, 6, .inl sf))] s.heap := hP
  have hiX3 : ∀ w ∈ wsX30, w ∈ wsX3_append := by decide +kernel
  have hl := lv_entry ([.ref h3, .int (nI kd), .int (nI x), .int (bi false)]) (n := 4) (Nat.le_of_ble_eq_true rfl)
  rw [lg_entry_eq]
  generalize (lg_sl ([.ref h3, .int (nI kd), .int (nI x), .int (bi false)]) ++ List.replicate (4 - (lg_sl ([.ref h3, .int (nI kd), .int (nI x), .int (bi false)])).length) Slot.unset).toArray = ls at hl ⊢
  have hl : lv_has ls 4 [(0, .ref h3), (1, .int (nI kd)), (2, .int (nI x)), (3, .int (bi false))] := hl
  refine lv_aload_n hx hb dX3_append_0 rfl (lv_at hl 0 rfl) ?_
  refine va_get (D := (dC, dI)) (ci := 3) (v := .ref hk) (C := RX3) (T := TX3) (N := 7) hx hb hts hiX3 hown hK hP 0 rfl rfl 4 (by decide) (hts (.fieldLink RX3 18 "RestRegisters$Wheels" "kinds" "[I") (by decide +kernel)) (fun _ h9 => h9) rfl dX3_append_1 ?_
  refine lv_aload_n hx hb dX3_append_4 rfl (lv_at hl 0 rfl) ?_
  refine va_get (D := (dC, dI)) (ci := 3) (v := .int (nI n)) (C := RX3) (T := TX3) (N := 7) hx hb hts hiX3 hown hK hP 0 rfl rfl 0 (by decide) (hts (.fieldLink RX3 28 "RestRegisters$Wheels" "size" "I") (by decide +kernel)) (fun _ h9 => h9) rfl dX3_append_5 ?_
  refine lv_iload_n hx hb dX3_append_8 rfl (lv_at hl 1 rfl) ?_
  refine rn_iast hx hb hK hP hD hS 1 0 rfl rfl (i := n) (by omega) (by decide) (g := upd kf n (nI kd)) rfl dX3_append_9 (fun H locs hP hD hS => ?_)
  have hP : va_P (dC, dI) vwCl [(h3, .inr (3, [.int (nI n), .int (nI h), .int (nI rg), .int (nI sp), .ref hk, .ref hw, .ref hs])), (hk, .inl (cI, 6, .inl (upd kf n (nI kd)))), (hw, .inl (cI, 6, .inl wf)), (hs, .inl (cI, 6, .inl sf))] H := hP
  have hD : va_D A [(h3, .inr (3, [.int (nI n), .int (nI h), .int (nI rg), .int (nI sp), .ref hk, .ref hw, .ref hs])), (hk, .inl (cI, 6, .inl (upd kf n (nI kd)))), (hw, .inl (cI, 6, .inl wf)), (hs, .inl (cI, 6, .inl sf))] := hD
  refine lv_aload_n hx hb dX3_append_10 rfl (lv_at hl 0 rfl) ?_
  refine va_get (D := (dC, dI)) (ci := 3) (v := .ref hw) (C := RX3) (T := TX3) (N := 7) hx hb hts hiX3 hown hK hP 0 rfl rfl 5 (by decide) (hts (.fieldLink RX3 22 "RestRegisters$Wheels" "widths" "[I") (by decide +kernel)) (fun _ h9 => h9) rfl dX3_append_11 ?_
  refine lv_aload_n hx hb dX3_append_14 rfl (lv_at hl 0 rfl) ?_
  refine va_get (D := (dC, dI)) (ci := 3) (v := .int (nI n)) (C := RX3) (T := TX3) (N := 7) hx hb hts hiX3 hown hK hP 0 rfl rfl 0 (by decide) (hts (.fieldLink RX3 28 "RestRegisters$Wheels" "size" "I") (by decide +kernel)) (fun _ h9 => h9) rfl dX3_append_15 ?_
  refine lv_iload_n hx hb dX3_append_18 rfl (lv_at hl 2 rfl) ?_
  refine rn_iast hx hb hK hP hD hS 2 0 rfl rfl (i := n) (by omega) (by decide) (g := upd wf n (nI x)) rfl dX3_append_19 (fun H locs hP hD hS => ?_)
  have hP : va_P (dC, dI) vwCl [(h3, .inr (3, [.int (nI n), .int (nI h), .int (nI rg), .int (nI sp), .ref hk, .ref hw, .ref hs])), (hk, .inl (cI, 6, .inl (upd kf n (nI kd)))), (hw, .inl (cI, 6, .inl (upd wf n (nI x)))), (hs, .inl (cI, 6, .inl sf))] H := hP
  have hD : va_D A [(h3, .inr (3, [.int (nI n), .int (nI h), .int (nI rg), .int (nI sp), .ref hk, .ref hw, .ref hs])), (hk, .inl (cI, 6, .inl (upd kf n (nI kd)))), (hw, .inl (cI, 6, .inl (upd wf n (nI x)))), (hs, .inl (cI, 6, .inl sf))] := hD
  refine lv_aload_n hx hb dX3_append_20 rfl (lv_at hl 0 rfl) ?_
  refine lv_dup hx hb dX3_append_21 rfl ?_
  refine va_get (D := (dC, dI)) (ci := 3) (v := .int (nI n)) (C := RX3) (T := TX3) (N := 7) hx hb hts hiX3 hown hK hP 0 rfl rfl 0 (by decide) (hts (.fieldLink RX3 28 "RestRegisters$Wheels" "size" "I") (by decide +kernel)) (fun _ h9 => h9) rfl dX3_append_22 ?_
  refine lv_iconst (v := (nI 1)) hx hb dX3_append_25 (by decide) ?_
  refine rn_iadd hx hb dX3_append_26 ?_
  refine va_put (D := (dC, dI)) (ci := 3) (v := .int (nI (n + 1))) (ty := .int) (C := RX3) (T := TX3) (N := 7) hx hb hts hiX3 tyX3 tyX3_ok nmX3 hown hK hP hD hS 0 rfl rfl 0 (by decide) (hts (.fieldLink RX3 28 "RestRegisters$Wheels" "size" "I") (by decide +kernel)) (fun _ h9 => h9) rfl (by decide +kernel) rfl rfl (Nat.le_of_ble_eq_true rfl) dX3_append_27 (fun H locs hP hD hS => ?_)
  have hP : va_P (dC, dI) vwCl [(h3, .inr (3, [.int (nI (n + 1)), .int (nI h), .int (nI rg), .int (nI sp), .ref hk, .ref hw, .ref hs])), (hk, .inl (cI, 6, .inl (upd kf n (nI kd)))), (hw, .inl (cI, 6, .inl (upd wf n (nI x)))), (hs, .inl (cI, 6, .inl sf))] H := hP
  have hD : va_D A [(h3, .inr (3, [.int (nI (n + 1)), .int (nI h), .int (nI rg), .int (nI sp), .ref hk, .ref hw, .ref hs])), (hk, .inl (cI, 6, .inl (upd kf n (nI kd)))), (hw, .inl (cI, 6, .inl (upd wf n (nI x)))), (hs, .inl (cI, 6, .inl sf))] := hD
  refine lv_aload_n hx hb dX3_append_30 rfl (lv_at hl 0 rfl) ?_
  refine lv_dup hx hb dX3_append_31 rfl ?_
  refine va_get (D := (dC, dI)) (ci := 3) (v := .int (nI sp)) (C := RX3) (T := TX3) (N := 7) hx hb hts hiX3 hown hK hP 0 rfl rfl 3 (by decide) (hts (.fieldLink RX3 15 "RestRegisters$Wheels" "span" "I") (by decide +kernel)) (fun _ h9 => h9) rfl dX3_append_32 ?_
  refine lv_iload_n hx hb dX3_append_35 rfl (lv_at hl 2 rfl) ?_
  refine rn_imul hx hb dX3_append_36 ?_
  refine va_put (D := (dC, dI)) (ci := 3) (v := .int (nI (sp * x))) (ty := .int) (C := RX3) (T := TX3) (N := 7) hx hb hts hiX3 tyX3 tyX3_ok nmX3 hown hK hP hD hS 0 rfl rfl 3 (by decide) (hts (.fieldLink RX3 15 "RestRegisters$Wheels" "span" "I") (by decide +kernel)) (fun _ h9 => h9) rfl (by decide +kernel) rfl rfl (Nat.le_of_ble_eq_true rfl) dX3_append_37 (fun H locs hP hD hS => ?_)
  have hP : va_P (dC, dI) vwCl [(h3, .inr (3, [.int (nI (n + 1)), .int (nI h), .int (nI rg), .int (nI (sp * x)), .ref hk, .ref hw, .ref hs])), (hk, .inl (cI, 6, .inl (upd kf n (nI kd)))), (hw, .inl (cI, 6, .inl (upd wf n (nI x)))), (hs, .inl (cI, 6, .inl sf))] H := hP
  have hD : va_D A [(h3, .inr (3, [.int (nI (n + 1)), .int (nI h), .int (nI rg), .int (nI (sp * x)), .ref hk, .ref hw, .ref hs])), (hk, .inl (cI, 6, .inl (upd kf n (nI kd)))), (hw, .inl (cI, 6, .inl (upd wf n (nI x)))), (hs, .inl (cI, 6, .inl sf))] := hD
  refine lv_iload_n hx hb dX3_append_40 rfl (lv_at hl 3 rfl) ?_
  refine rb_if_ne (tgt := 64) hx hb dX3_append_41 (by decide) (fun c41 => ?_) (fun c41 => ?_)
  · exact absurd c41 (by decide)
  refine lv_aload_n hx hb dX3_append_44 rfl (lv_at hl 0 rfl) ?_
  refine lv_dup hx hb dX3_append_45 rfl ?_
  refine va_get (D := (dC, dI)) (ci := 3) (v := .int (nI h)) (C := RX3) (T := TX3) (N := 7) hx hb hts hiX3 hown hK hP 0 rfl rfl 1 (by decide) (hts (.fieldLink RX3 31 "RestRegisters$Wheels" "honest" "I") (by decide +kernel)) (fun _ h9 => h9) rfl dX3_append_46 ?_
  refine lv_iconst (v := (nI 1)) hx hb dX3_append_49 (by decide) ?_
  refine rn_iadd hx hb dX3_append_50 ?_
  refine va_put (D := (dC, dI)) (ci := 3) (v := .int (nI (h + 1))) (ty := .int) (C := RX3) (T := TX3) (N := 7) hx hb hts hiX3 tyX3 tyX3_ok nmX3 hown hK hP hD hS 0 rfl rfl 1 (by decide) (hts (.fieldLink RX3 31 "RestRegisters$Wheels" "honest" "I") (by decide +kernel)) (fun _ h9 => h9) rfl (by decide +kernel) rfl rfl (Nat.le_of_ble_eq_true rfl) dX3_append_51 (fun H locs hP hD hS => ?_)
  have hP : va_P (dC, dI) vwCl [(h3, .inr (3, [.int (nI (n + 1)), .int (nI (h + 1)), .int (nI rg), .int (nI (sp * x)), .ref hk, .ref hw, .ref hs])), (hk, .inl (cI, 6, .inl (upd kf n (nI kd)))), (hw, .inl (cI, 6, .inl (upd wf n (nI x)))), (hs, .inl (cI, 6, .inl sf))] H := hP
  have hD : va_D A [(h3, .inr (3, [.int (nI (n + 1)), .int (nI (h + 1)), .int (nI rg), .int (nI (sp * x)), .ref hk, .ref hw, .ref hs])), (hk, .inl (cI, 6, .inl (upd kf n (nI kd)))), (hw, .inl (cI, 6, .inl (upd wf n (nI x)))), (hs, .inl (cI, 6, .inl sf))] := hD
  refine lv_aload_n hx hb dX3_append_54 rfl (lv_at hl 0 rfl) ?_
  refine lv_dup hx hb dX3_append_55 rfl ?_
  refine va_get (D := (dC, dI)) (ci := 3) (v := .int (nI rg)) (C := RX3) (T := TX3) (N := 7) hx hb hts hiX3 hown hK hP 0 rfl rfl 2 (by decide) (hts (.fieldLink RX3 9 "RestRegisters$Wheels" "range" "I") (by decide +kernel)) (fun _ h9 => h9) rfl dX3_append_56 ?_
  refine lv_iload_n hx hb dX3_append_59 rfl (lv_at hl 2 rfl) ?_
  refine rn_imul hx hb dX3_append_60 ?_
  refine va_put (D := (dC, dI)) (ci := 3) (v := .int (nI (rg * x))) (ty := .int) (C := RX3) (T := TX3) (N := 7) hx hb hts hiX3 tyX3 tyX3_ok nmX3 hown hK hP hD hS 0 rfl rfl 2 (by decide) (hts (.fieldLink RX3 9 "RestRegisters$Wheels" "range" "I") (by decide +kernel)) (fun _ h9 => h9) rfl (by decide +kernel) rfl rfl (Nat.le_of_ble_eq_true rfl) dX3_append_61 (fun H locs hP hD hS => ?_)
  have hP : va_P (dC, dI) vwCl [(h3, .inr (3, [.int (nI (n + 1)), .int (nI (h + 1)), .int (nI (rg * x)), .int (nI (sp * x)), .ref hk, .ref hw, .ref hs])), (hk, .inl (cI, 6, .inl (upd kf n (nI kd)))), (hw, .inl (cI, 6, .inl (upd wf n (nI x)))), (hs, .inl (cI, 6, .inl sf))] H := hP
  have hD : va_D A [(h3, .inr (3, [.int (nI (n + 1)), .int (nI (h + 1)), .int (nI (rg * x)), .int (nI (sp * x)), .ref hk, .ref hw, .ref hs])), (hk, .inl (cI, 6, .inl (upd kf n (nI kd)))), (hw, .inl (cI, 6, .inl (upd wf n (nI x)))), (hs, .inl (cI, 6, .inl sf))] := hD
  exact rr_vretW hx hb hr hlocks dX3_append_64 hP hD hS
set_option maxHeartbeats 4000000 in
set_option maxRecDepth 100000 in
theorem c_X3_append_t (l : Launch) (dC : Nat → ClassId) (dI : Nat → Nat → Nat) (cI cJ cS : ClassId) (sz : Nat) (h3 hk hw hs : Nat) (n h rg sp : Nat) (kf wf sf : Nat → Int32) (kd x : Nat) (hn5 : n < 6) : Met l yX3_append wsX3_append ({ frames := 0, cells := 0, slots := 0, locals := 0 }) (va_Pc [.ref h3, .int (nI kd), .int (nI x), .int (bi true)] (rW (dC, dI) vwCl [(h3, .inr (3, [.int (nI n), .int (nI h), .int (nI rg), .int (nI sp), .ref hk, .ref hw, .ref hs])), (hk, .inl (cI, 6, .inl kf)), (hw, .inl (cI, 6, .inl wf)), (hs, .inl (cI, 6, .inl sf))] (tyz cI cJ cS) sz)) (qV (dC, dI) vwCl [(h3, .inr (3, [.int (nI (n + 1)), .int (nI h), .int (nI rg), .int (nI (sp * x)), .ref hk, .ref hw, .ref hs])), (hk, .inl (cI, 6, .inl (upd kf n (nI kd)))), (hw, .inl (cI, 6, .inl (upd wf n (nI x)))), (hs, .inl (cI, 6, .inl sf))] (va_A [(h3, .inr (3, [.int (nI n), .int (nI h), .int (nI rg), .int (nI sp), .ref hk, .ref hw, .ref hs])), (hk, .inl (cI, 6, .inl kf)), (hw, .inl (cI, 6, .inl wf)), (hs, .inl (cI, 6, .inl sf))] sz)) 0 0 (va_A [(h3, .inr (3, [.int (nI n), .int (nI h), .int (nI rg), .int (nI sp), .ref hk, .ref hw, .ref hs])), (hk, .inl (cI, 6, .inl kf)), (hw, .inl (cI, 6, .inl wf)), (hs, .inl (cI, 6, .inl sf))] sz) := by
  refine Met.ofW (cc := cX3_append) (maxL := 4) (ret := none) (by decide) rfl ?_
  intro p e s m args below meth c s₁ B hml hv
  obtain ⟨rfl, hsz, hP, hKK, hD0⟩ := hv
  have hK := hKK.1
  have hx := B.exec
  have hb := B.bytes
  have hr := B.returns
  have hts := atoms_spec (ws := wsX3_append) B.pre
  have hown : s.vm.findClass RX3 = some m.cls := findClass_of_methodNamed B.named
  have hlocks := B.notSynchronized
  subst hsz
  have hD := hD0.self (sz := s.heap.size)
  generalize hAe : va_A [(h3, .inr (3, [.int (nI n), .int (nI h), .int (nI rg), .int (nI sp), .ref hk, .ref hw, .ref hs])), (hk, .inl (cI, 6, .inl kf)), (hw, .inl (cI, 6, .inl wf)), (hs, .inl (cI, 6, .inl sf))] s.heap.size = A at hD ⊢
  have hA : ∀ q : Nat, s.heap.size ≤ q → A q := fun q h => by rw [← hAe]; exact Or.inr h
  have hS : va_S A s.heap s.heap [] := va_S.rf
  have hP : va_P (dC, dI) vwCl [(h3, .inr (3, [.int (nI n), .int (nI h), .int (nI rg), .int (nI sp), .ref hk, .ref hw, .ref hs])), (hk, .inl (cI, 6, .inl kf)), (hw, .inl (cI, 6, .inl wf)), (hs, .inl (cI, 6, .inl sf))] s.heap := hP
  have hiX3 : ∀ w ∈ wsX30, w ∈ wsX3_append := by decide +kernel
  have hl := lv_entry ([.ref h3, .int (nI kd), .int (nI x), .int (bi true)]) (n := 4) (Nat.le_of_ble_eq_true rfl)
  rw [lg_entry_eq]
  generalize (lg_sl ([.ref h3, .int (nI kd), .int (nI x), .int (bi true)]) ++ List.replicate (4 - (lg_sl ([.ref h3, .int (nI kd), .int (nI x), .int (bi true)])).length) Slot.unset).toArray = ls at hl ⊢
  have hl : lv_has ls 4 [(0, .ref h3), (1, .int (nI kd)), (2, .int (nI x)), (3, .int (bi true))] := hl
  refine lv_aload_n hx hb dX3_append_0 rfl (lv_at hl 0 rfl) ?_
  refine va_get (D := (dC, dI)) (ci := 3) (v := .ref hk) (C := RX3) (T := TX3) (N := 7) hx hb hts hiX3 hown hK hP 0 rfl rfl 4 (by decide) (hts (.fieldLink RX3 18 "RestRegisters$Wheels" "kinds" "[I") (by decide +kernel)) (fun _ h9 => h9) rfl dX3_append_1 ?_
  refine lv_aload_n hx hb dX3_append_4 rfl (lv_at hl 0 rfl) ?_
  refine va_get (D := (dC, dI)) (ci := 3) (v := .int (nI n)) (C := RX3) (T := TX3) (N := 7) hx hb hts hiX3 hown hK hP 0 rfl rfl 0 (by decide) (hts (.fieldLink RX3 28 "RestRegisters$Wheels" "size" "I") (by decide +kernel)) (fun _ h9 => h9) rfl dX3_append_5 ?_
  refine lv_iload_n hx hb dX3_append_8 rfl (lv_at hl 1 rfl) ?_
  refine rn_iast hx hb hK hP hD hS 1 0 rfl rfl (i := n) (by omega) (by decide) (g := upd kf n (nI kd)) rfl dX3_append_9 (fun H locs hP hD hS => ?_)
  have hP : va_P (dC, dI) vwCl [(h3, .inr (3, [.int (nI n), .int (nI h), .int (nI rg), .int (nI sp), .ref hk, .ref hw, .ref hs])), (hk, .inl (cI, 6, .inl (upd kf n (nI kd)))), (hw, .inl (cI, 6, .inl wf)), (hs, .inl (cI, 6, .inl sf))] H := hP
  have hD : va_D A [(h3, .inr (3, [.int (nI n), .int (nI h), .int (nI rg), .int (nI sp), .ref hk, .ref hw, .ref hs])), (hk, .inl (cI, 6, .inl (upd kf n (nI kd)))), (hw, .inl (cI, 6, .inl wf)), (hs, .inl (cI, 6, .inl sf))] := hD
  refine lv_aload_n hx hb dX3_append_10 rfl (lv_at hl 0 rfl) ?_
  refine va_get (D := (dC, dI)) (ci := 3) (v := .ref hw) (C := RX3) (T := TX3) (N := 7) hx hb hts hiX3 hown hK hP 0 rfl rfl 5 (by decide) (hts (.fieldLink RX3 22 "RestRegisters$Wheels" "widths" "[I") (by decide +kernel)) (fun _ h9 => h9) rfl dX3_append_11 ?_
  refine lv_aload_n hx hb dX3_append_14 rfl (lv_at hl 0 rfl) ?_
  refine va_get (D := (dC, dI)) (ci := 3) (v := .int (nI n)) (C := RX3) (T := TX3) (N := 7) hx hb hts hiX3 hown hK hP 0 rfl rfl 0 (by decide) (hts (.fieldLink RX3 28 "RestRegisters$Wheels" "size" "I") (by decide +kernel)) (fun _ h9 => h9) rfl dX3_append_15 ?_
  refine lv_iload_n hx hb dX3_append_18 rfl (lv_at hl 2 rfl) ?_
  refine rn_iast hx hb hK hP hD hS 2 0 rfl rfl (i := n) (by omega) (by decide) (g := upd wf n (nI x)) rfl dX3_append_19 (fun H locs hP hD hS => ?_)
  have hP : va_P (dC, dI) vwCl [(h3, .inr (3, [.int (nI n), .int (nI h), .int (nI rg), .int (nI sp), .ref hk, .ref hw, .ref hs])), (hk, .inl (cI, 6, .inl (upd kf n (nI kd)))), (hw, .inl (cI, 6, .inl (upd wf n (nI x)))), (hs, .inl (cI, 6, .inl sf))] H := hP
  have hD : va_D A [(h3, .inr (3, [.int (nI n), .int (nI h), .int (nI rg), .int (nI sp), .ref hk, .ref hw, .ref hs])), (hk, .inl (cI, 6, .inl (upd kf n (nI kd)))), (hw, .inl (cI, 6, .inl (upd wf n (nI x)))), (hs, .inl (cI, 6, .inl sf))] := hD
  refine lv_aload_n hx hb dX3_append_20 rfl (lv_at hl 0 rfl) ?_
  refine lv_dup hx hb dX3_append_21 rfl ?_
  refine va_get (D := (dC, dI)) (ci := 3) (v := .int (nI n)) (C := RX3) (T := TX3) (N := 7) hx hb hts hiX3 hown hK hP 0 rfl rfl 0 (by decide) (hts (.fieldLink RX3 28 "RestRegisters$Wheels" "size" "I") (by decide +kernel)) (fun _ h9 => h9) rfl dX3_append_22 ?_
  refine lv_iconst (v := (nI 1)) hx hb dX3_append_25 (by decide) ?_
  refine rn_iadd hx hb dX3_append_26 ?_
  refine va_put (D := (dC, dI)) (ci := 3) (v := .int (nI (n + 1))) (ty := .int) (C := RX3) (T := TX3) (N := 7) hx hb hts hiX3 tyX3 tyX3_ok nmX3 hown hK hP hD hS 0 rfl rfl 0 (by decide) (hts (.fieldLink RX3 28 "RestRegisters$Wheels" "size" "I") (by decide +kernel)) (fun _ h9 => h9) rfl (by decide +kernel) rfl rfl (Nat.le_of_ble_eq_true rfl) dX3_append_27 (fun H locs hP hD hS => ?_)
  have hP : va_P (dC, dI) vwCl [(h3, .inr (3, [.int (nI (n + 1)), .int (nI h), .int (nI rg), .int (nI sp), .ref hk, .ref hw, .ref hs])), (hk, .inl (cI, 6, .inl (upd kf n (nI kd)))), (hw, .inl (cI, 6, .inl (upd wf n (nI x)))), (hs, .inl (cI, 6, .inl sf))] H := hP
  have hD : va_D A [(h3, .inr (3, [.int (nI (n + 1)), .int (nI h), .int (nI rg), .int (nI sp), .ref hk, .ref hw, .ref hs])), (hk, .inl (cI, 6, .inl (upd kf n (nI kd)))), (hw, .inl (cI, 6, .inl (upd wf n (nI x)))), (hs, .inl (cI, 6, .inl sf))] := hD
  refine lv_aload_n hx hb dX3_append_30 rfl (lv_at hl 0 rfl) ?_
  refine lv_dup hx hb dX3_append_31 rfl ?_
  refine va_get (D := (dC, dI)) (ci := 3) (v := .int (nI sp)) (C := RX3) (T := TX3) (N := 7) hx hb hts hiX3 hown hK hP 0 rfl rfl 3 (by decide) (hts (.fieldLink RX3 15 "RestRegisters$Wheels" "span" "I") (by decide +kernel)) (fun _ h9 => h9) rfl dX3_append_32 ?_
  refine lv_iload_n hx hb dX3_append_35 rfl (lv_at hl 2 rfl) ?_
  refine rn_imul hx hb dX3_append_36 ?_
  refine va_put (D := (dC, dI)) (ci := 3) (v := .int (nI (sp * x))) (ty := .int) (C := RX3) (T := TX3) (N := 7) hx hb hts hiX3 tyX3 tyX3_ok nmX3 hown hK hP hD hS 0 rfl rfl 3 (by decide) (hts (.fieldLink RX3 15 "RestRegisters$Wheels" "span" "I") (by decide +kernel)) (fun _ h9 => h9) rfl (by decide +kernel) rfl rfl (Nat.le_of_ble_eq_true rfl) dX3_append_37 (fun H locs hP hD hS => ?_)
  have hP : va_P (dC, dI) vwCl [(h3, .inr (3, [.int (nI (n + 1)), .int (nI h), .int (nI rg), .int (nI (sp * x)), .ref hk, .ref hw, .ref hs])), (hk, .inl (cI, 6, .inl (upd kf n (nI kd)))), (hw, .inl (cI, 6, .inl (upd wf n (nI x)))), (hs, .inl (cI, 6, .inl sf))] H := hP
  have hD : va_D A [(h3, .inr (3, [.int (nI (n + 1)), .int (nI h), .int (nI rg), .int (nI (sp * x)), .ref hk, .ref hw, .ref hs])), (hk, .inl (cI, 6, .inl (upd kf n (nI kd)))), (hw, .inl (cI, 6, .inl (upd wf n (nI x)))), (hs, .inl (cI, 6, .inl sf))] := hD
  refine lv_iload_n hx hb dX3_append_40 rfl (lv_at hl 3 rfl) ?_
  refine rb_if_ne (tgt := 64) hx hb dX3_append_41 (by decide) (fun c41 => ?_) (fun c41 => ?_)
  rotate_left
  · exact absurd c41 (by decide)
  exact rr_vretW hx hb hr hlocks dX3_append_64 hP hD hS
set_option maxHeartbeats 4000000 in
set_option maxRecDepth 100000 in
theorem c_X3_becomeLike (l : Launch) (dC : Nat → ClassId) (dI : Nat → Nat → Nat) (cI cJ cS : ClassId) (sz : Nat) (h3 hk hw hs : Nat) (n h rg sp : Nat) (kf wf sf : Nat → Int32) (g3 gk gw gs : Nat) (n2 h2 rg2 sp2 : Nat) (kf2 wf2 sf2 : Nat → Int32) : Met l yX3_becomeLike wsX3_becomeLike ({ frames := 1, cells := 0, slots := 0, locals := 60 }) (va_Pc [.ref h3, .ref g3] (rW (dC, dI) vwCl [(h3, .inr (3, [.int (nI n), .int (nI h), .int (nI rg), .int (nI sp), .ref hk, .ref hw, .ref hs])), (hk, .inl (cI, 6, .inl kf)), (hw, .inl (cI, 6, .inl wf)), (hs, .inl (cI, 6, .inl sf)), (g3, .inr (3, [.int (nI n2), .int (nI h2), .int (nI rg2), .int (nI sp2), .ref gk, .ref gw, .ref gs])), (gk, .inl (cI, 6, .inl kf2)), (gw, .inl (cI, 6, .inl wf2)), (gs, .inl (cI, 6, .inl sf2))] (tyz cI cJ cS) sz)) (qV (dC, dI) vwCl [(h3, .inr (3, [.int (nI n2), .int (nI h2), .int (nI rg2), .int (nI sp2), .ref hk, .ref hw, .ref hs])), (hk, .inl (cI, 6, .inl (va_cpy kf2 kf 0 0 6))), (hw, .inl (cI, 6, .inl (va_cpy wf2 wf 0 0 6))), (hs, .inl (cI, 6, .inl (va_cpy sf2 sf 0 0 6))), (g3, .inr (3, [.int (nI n2), .int (nI h2), .int (nI rg2), .int (nI sp2), .ref gk, .ref gw, .ref gs])), (gk, .inl (cI, 6, .inl kf2)), (gw, .inl (cI, 6, .inl wf2)), (gs, .inl (cI, 6, .inl sf2))] (va_A [(h3, .inr (3, [.int (nI n), .int (nI h), .int (nI rg), .int (nI sp), .ref hk, .ref hw, .ref hs])), (hk, .inl (cI, 6, .inl kf)), (hw, .inl (cI, 6, .inl wf)), (hs, .inl (cI, 6, .inl sf)), (g3, .inr (3, [.int (nI n2), .int (nI h2), .int (nI rg2), .int (nI sp2), .ref gk, .ref gw, .ref gs])), (gk, .inl (cI, 6, .inl kf2)), (gw, .inl (cI, 6, .inl wf2)), (gs, .inl (cI, 6, .inl sf2))] sz)) 0 0 (va_A [(h3, .inr (3, [.int (nI n), .int (nI h), .int (nI rg), .int (nI sp), .ref hk, .ref hw, .ref hs])), (hk, .inl (cI, 6, .inl kf)), (hw, .inl (cI, 6, .inl wf)), (hs, .inl (cI, 6, .inl sf)), (g3, .inr (3, [.int (nI n2), .int (nI h2), .int (nI rg2), .int (nI sp2), .ref gk, .ref gw, .ref gs])), (gk, .inl (cI, 6, .inl kf2)), (gw, .inl (cI, 6, .inl wf2)), (gs, .inl (cI, 6, .inl sf2))] sz) := by
  refine Met.ofW (cc := cX3_becomeLike) (maxL := 2) (ret := none) (by decide) rfl ?_
  intro p e s m args below meth c s₁ B hml hv
  obtain ⟨rfl, hsz, hP, hKK, hD0⟩ := hv
  have hK := hKK.1
  have hx := B.exec
  have hb := B.bytes
  have hr := B.returns
  have hts := atoms_spec (ws := wsX3_becomeLike) B.pre
  have hown : s.vm.findClass RX3 = some m.cls := findClass_of_methodNamed B.named
  have hlocks := B.notSynchronized
  subst hsz
  have hD := hD0.self (sz := s.heap.size)
  generalize hAe : va_A [(h3, .inr (3, [.int (nI n), .int (nI h), .int (nI rg), .int (nI sp), .ref hk, .ref hw, .ref hs])), (hk, .inl (cI, 6, .inl kf)), (hw, .inl (cI, 6, .inl wf)), (hs, .inl (cI, 6, .inl sf)), (g3, .inr (3, [.int (nI n2), .int (nI h2), .int (nI rg2), .int (nI sp2), .ref gk, .ref gw, .ref gs])), (gk, .inl (cI, 6, .inl kf2)), (gw, .inl (cI, 6, .inl wf2)), (gs, .inl (cI, 6, .inl sf2))] s.heap.size = A at hD ⊢
  have hA : ∀ q : Nat, s.heap.size ≤ q → A q := fun q h => by rw [← hAe]; exact Or.inr h
  have hS : va_S A s.heap s.heap [] := va_S.rf
  have hP : va_P (dC, dI) vwCl [(h3, .inr (3, [.int (nI n), .int (nI h), .int (nI rg), .int (nI sp), .ref hk, .ref hw, .ref hs])), (hk, .inl (cI, 6, .inl kf)), (hw, .inl (cI, 6, .inl wf)), (hs, .inl (cI, 6, .inl sf)), (g3, .inr (3, [.int (nI n2), .int (nI h2), .int (nI rg2), .int (nI sp2), .ref gk, .ref gw, .ref gs])), (gk, .inl (cI, 6, .inl kf2)), (gw, .inl (cI, 6, .inl wf2)), (gs, .inl (cI, 6, .inl sf2))] s.heap := hP
  have hiX3 : ∀ w ∈ wsX30, w ∈ wsX3_becomeLike := by decide +kernel
  have hl := lv_entry ([.ref h3, .ref g3]) (n := 2) (Nat.le_of_ble_eq_true rfl)
  rw [lg_entry_eq]
  generalize (lg_sl ([.ref h3, .ref g3]) ++ List.replicate (2 - (lg_sl ([.ref h3, .ref g3])).length) Slot.unset).toArray = ls at hl ⊢
  have hl : lv_has ls 2 [(0, .ref h3), (1, .ref g3)] := hl
  refine lv_aload_n hx hb dX3_becomeLike_0 rfl (lv_at hl 0 rfl) ?_
  refine lv_aload_n hx hb dX3_becomeLike_1 rfl (lv_at hl 1 rfl) ?_
  refine va_get (D := (dC, dI)) (ci := 3) (v := .int (nI n2)) (C := RX3) (T := TX3) (N := 7) hx hb hts hiX3 hown hK hP 4 rfl rfl 0 (by decide) (hts (.fieldLink RX3 28 "RestRegisters$Wheels" "size" "I") (by decide +kernel)) (fun _ h9 => h9) rfl dX3_becomeLike_2 ?_
  refine va_put (D := (dC, dI)) (ci := 3) (v := .int (nI n2)) (ty := .int) (C := RX3) (T := TX3) (N := 7) hx hb hts hiX3 tyX3 tyX3_ok nmX3 hown hK hP hD hS 0 rfl rfl 0 (by decide) (hts (.fieldLink RX3 28 "RestRegisters$Wheels" "size" "I") (by decide +kernel)) (fun _ h9 => h9) rfl (by decide +kernel) rfl rfl (Nat.le_of_ble_eq_true rfl) dX3_becomeLike_5 (fun H locs hP hD hS => ?_)
  have hP : va_P (dC, dI) vwCl [(h3, .inr (3, [.int (nI n2), .int (nI h), .int (nI rg), .int (nI sp), .ref hk, .ref hw, .ref hs])), (hk, .inl (cI, 6, .inl kf)), (hw, .inl (cI, 6, .inl wf)), (hs, .inl (cI, 6, .inl sf)), (g3, .inr (3, [.int (nI n2), .int (nI h2), .int (nI rg2), .int (nI sp2), .ref gk, .ref gw, .ref gs])), (gk, .inl (cI, 6, .inl kf2)), (gw, .inl (cI, 6, .inl wf2)), (gs, .inl (cI, 6, .inl sf2))] H := hP
  have hD : va_D A [(h3, .inr (3, [.int (nI n2), .int (nI h), .int (nI rg), .int (nI sp), .ref hk, .ref hw, .ref hs])), (hk, .inl (cI, 6, .inl kf)), (hw, .inl (cI, 6, .inl wf)), (hs, .inl (cI, 6, .inl sf)), (g3, .inr (3, [.int (nI n2), .int (nI h2), .int (nI rg2), .int (nI sp2), .ref gk, .ref gw, .ref gs])), (gk, .inl (cI, 6, .inl kf2)), (gw, .inl (cI, 6, .inl wf2)), (gs, .inl (cI, 6, .inl sf2))] := hD
  refine lv_aload_n hx hb dX3_becomeLike_8 rfl (lv_at hl 0 rfl) ?_
  refine lv_aload_n hx hb dX3_becomeLike_9 rfl (lv_at hl 1 rfl) ?_
  refine va_get (D := (dC, dI)) (ci := 3) (v := .int (nI h2)) (C := RX3) (T := TX3) (N := 7) hx hb hts hiX3 hown hK hP 4 rfl rfl 1 (by decide) (hts (.fieldLink RX3 31 "RestRegisters$Wheels" "honest" "I") (by decide +kernel)) (fun _ h9 => h9) rfl dX3_becomeLike_10 ?_
  refine va_put (D := (dC, dI)) (ci := 3) (v := .int (nI h2)) (ty := .int) (C := RX3) (T := TX3) (N := 7) hx hb hts hiX3 tyX3 tyX3_ok nmX3 hown hK hP hD hS 0 rfl rfl 1 (by decide) (hts (.fieldLink RX3 31 "RestRegisters$Wheels" "honest" "I") (by decide +kernel)) (fun _ h9 => h9) rfl (by decide +kernel) rfl rfl (Nat.le_of_ble_eq_true rfl) dX3_becomeLike_13 (fun H locs hP hD hS => ?_)
  have hP : va_P (dC, dI) vwCl [(h3, .inr (3, [.int (nI n2), .int (nI h2), .int (nI rg), .int (nI sp), .ref hk, .ref hw, .ref hs])), (hk, .inl (cI, 6, .inl kf)), (hw, .inl (cI, 6, .inl wf)), (hs, .inl (cI, 6, .inl sf)), (g3, .inr (3, [.int (nI n2), .int (nI h2), .int (nI rg2), .int (nI sp2), .ref gk, .ref gw, .ref gs])), (gk, .inl (cI, 6, .inl kf2)), (gw, .inl (cI, 6, .inl wf2)), (gs, .inl (cI, 6, .inl sf2))] H := hP
  have hD : va_D A [(h3, .inr (3, [.int (nI n2), .int (nI h2), .int (nI rg), .int (nI sp), .ref hk, .ref hw, .ref hs])), (hk, .inl (cI, 6, .inl kf)), (hw, .inl (cI, 6, .inl wf)), (hs, .inl (cI, 6, .inl sf)), (g3, .inr (3, [.int (nI n2), .int (nI h2), .int (nI rg2), .int (nI sp2), .ref gk, .ref gw, .ref gs])), (gk, .inl (cI, 6, .inl kf2)), (gw, .inl (cI, 6, .inl wf2)), (gs, .inl (cI, 6, .inl sf2))] := hD
  refine lv_aload_n hx hb dX3_becomeLike_16 rfl (lv_at hl 0 rfl) ?_
  refine lv_aload_n hx hb dX3_becomeLike_17 rfl (lv_at hl 1 rfl) ?_
  refine va_get (D := (dC, dI)) (ci := 3) (v := .int (nI rg2)) (C := RX3) (T := TX3) (N := 7) hx hb hts hiX3 hown hK hP 4 rfl rfl 2 (by decide) (hts (.fieldLink RX3 9 "RestRegisters$Wheels" "range" "I") (by decide +kernel)) (fun _ h9 => h9) rfl dX3_becomeLike_18 ?_
  refine va_put (D := (dC, dI)) (ci := 3) (v := .int (nI rg2)) (ty := .int) (C := RX3) (T := TX3) (N := 7) hx hb hts hiX3 tyX3 tyX3_ok nmX3 hown hK hP hD hS 0 rfl rfl 2 (by decide) (hts (.fieldLink RX3 9 "RestRegisters$Wheels" "range" "I") (by decide +kernel)) (fun _ h9 => h9) rfl (by decide +kernel) rfl rfl (Nat.le_of_ble_eq_true rfl) dX3_becomeLike_21 (fun H locs hP hD hS => ?_)
  have hP : va_P (dC, dI) vwCl [(h3, .inr (3, [.int (nI n2), .int (nI h2), .int (nI rg2), .int (nI sp), .ref hk, .ref hw, .ref hs])), (hk, .inl (cI, 6, .inl kf)), (hw, .inl (cI, 6, .inl wf)), (hs, .inl (cI, 6, .inl sf)), (g3, .inr (3, [.int (nI n2), .int (nI h2), .int (nI rg2), .int (nI sp2), .ref gk, .ref gw, .ref gs])), (gk, .inl (cI, 6, .inl kf2)), (gw, .inl (cI, 6, .inl wf2)), (gs, .inl (cI, 6, .inl sf2))] H := hP
  have hD : va_D A [(h3, .inr (3, [.int (nI n2), .int (nI h2), .int (nI rg2), .int (nI sp), .ref hk, .ref hw, .ref hs])), (hk, .inl (cI, 6, .inl kf)), (hw, .inl (cI, 6, .inl wf)), (hs, .inl (cI, 6, .inl sf)), (g3, .inr (3, [.int (nI n2), .int (nI h2), .int (nI rg2), .int (nI sp2), .ref gk, .ref gw, .ref gs])), (gk, .inl (cI, 6, .inl kf2)), (gw, .inl (cI, 6, .inl wf2)), (gs, .inl (cI, 6, .inl sf2))] := hD
  refine lv_aload_n hx hb dX3_becomeLike_24 rfl (lv_at hl 0 rfl) ?_
  refine lv_aload_n hx hb dX3_becomeLike_25 rfl (lv_at hl 1 rfl) ?_
  refine va_get (D := (dC, dI)) (ci := 3) (v := .int (nI sp2)) (C := RX3) (T := TX3) (N := 7) hx hb hts hiX3 hown hK hP 4 rfl rfl 3 (by decide) (hts (.fieldLink RX3 15 "RestRegisters$Wheels" "span" "I") (by decide +kernel)) (fun _ h9 => h9) rfl dX3_becomeLike_26 ?_
  refine va_put (D := (dC, dI)) (ci := 3) (v := .int (nI sp2)) (ty := .int) (C := RX3) (T := TX3) (N := 7) hx hb hts hiX3 tyX3 tyX3_ok nmX3 hown hK hP hD hS 0 rfl rfl 3 (by decide) (hts (.fieldLink RX3 15 "RestRegisters$Wheels" "span" "I") (by decide +kernel)) (fun _ h9 => h9) rfl (by decide +kernel) rfl rfl (Nat.le_of_ble_eq_true rfl) dX3_becomeLike_29 (fun H locs hP hD hS => ?_)
  have hP : va_P (dC, dI) vwCl [(h3, .inr (3, [.int (nI n2), .int (nI h2), .int (nI rg2), .int (nI sp2), .ref hk, .ref hw, .ref hs])), (hk, .inl (cI, 6, .inl kf)), (hw, .inl (cI, 6, .inl wf)), (hs, .inl (cI, 6, .inl sf)), (g3, .inr (3, [.int (nI n2), .int (nI h2), .int (nI rg2), .int (nI sp2), .ref gk, .ref gw, .ref gs])), (gk, .inl (cI, 6, .inl kf2)), (gw, .inl (cI, 6, .inl wf2)), (gs, .inl (cI, 6, .inl sf2))] H := hP
  have hD : va_D A [(h3, .inr (3, [.int (nI n2), .int (nI h2), .int (nI rg2), .int (nI sp2), .ref hk, .ref hw, .ref hs])), (hk, .inl (cI, 6, .inl kf)), (hw, .inl (cI, 6, .inl wf)), (hs, .inl (cI, 6, .inl sf)), (g3, .inr (3, [.int (nI n2), .int (nI h2), .int (nI rg2), .int (nI sp2), .ref gk, .ref gw, .ref gs])), (gk, .inl (cI, 6, .inl kf2)), (gw, .inl (cI, 6, .inl wf2)), (gs, .inl (cI, 6, .inl sf2))] := hD
  refine lv_aload_n hx hb dX3_becomeLike_32 rfl (lv_at hl 1 rfl) ?_
  refine va_get (D := (dC, dI)) (ci := 3) (v := .ref gk) (C := RX3) (T := TX3) (N := 7) hx hb hts hiX3 hown hK hP 4 rfl rfl 4 (by decide) (hts (.fieldLink RX3 18 "RestRegisters$Wheels" "kinds" "[I") (by decide +kernel)) (fun _ h9 => h9) rfl dX3_becomeLike_33 ?_
  refine lv_iconst (v := (nI 0)) hx hb dX3_becomeLike_36 (by decide) ?_
  refine lv_aload_n hx hb dX3_becomeLike_37 rfl (lv_at hl 0 rfl) ?_
  refine va_get (D := (dC, dI)) (ci := 3) (v := .ref hk) (C := RX3) (T := TX3) (N := 7) hx hb hts hiX3 hown hK hP 0 rfl rfl 4 (by decide) (hts (.fieldLink RX3 18 "RestRegisters$Wheels" "kinds" "[I") (by decide +kernel)) (fun _ h9 => h9) rfl dX3_becomeLike_38 ?_
  refine lv_iconst (v := (nI 0)) hx hb dX3_becomeLike_41 (by decide) ?_
  refine lv_bipush (v := (nI 6)) hx hb dX3_becomeLike_42 (by decide) ?_
  refine rn_copyi hx hb (hml.trans hl.1.symm) hown (hts (.methodLink RX3 38 arraycopyName) (by decide +kernel)) (hts (.native arraycopyName) (by decide +kernel)) (hts (.static arraycopyName) (by decide +kernel)) (hts (.initialized "java/lang/System") (by decide +kernel)) hK hP hD hS 5 1 0 0 rfl rfl rfl rfl rfl (sp := 0) (dp := 0) (n := 6) (by omega) (by omega) (by decide) (by decide) (fun _ _ => rfl) (Nat.le_of_ble_eq_true rfl) (Nat.le_of_ble_eq_true rfl) dX3_becomeLike_44 (fun H locs hP hD hS => ?_)
  have hP : va_P (dC, dI) vwCl [(h3, .inr (3, [.int (nI n2), .int (nI h2), .int (nI rg2), .int (nI sp2), .ref hk, .ref hw, .ref hs])), (hk, .inl (cI, 6, .inl (va_cpy kf2 kf 0 0 6))), (hw, .inl (cI, 6, .inl wf)), (hs, .inl (cI, 6, .inl sf)), (g3, .inr (3, [.int (nI n2), .int (nI h2), .int (nI rg2), .int (nI sp2), .ref gk, .ref gw, .ref gs])), (gk, .inl (cI, 6, .inl kf2)), (gw, .inl (cI, 6, .inl wf2)), (gs, .inl (cI, 6, .inl sf2))] H := hP
  have hD : va_D A [(h3, .inr (3, [.int (nI n2), .int (nI h2), .int (nI rg2), .int (nI sp2), .ref hk, .ref hw, .ref hs])), (hk, .inl (cI, 6, .inl (va_cpy kf2 kf 0 0 6))), (hw, .inl (cI, 6, .inl wf)), (hs, .inl (cI, 6, .inl sf)), (g3, .inr (3, [.int (nI n2), .int (nI h2), .int (nI rg2), .int (nI sp2), .ref gk, .ref gw, .ref gs])), (gk, .inl (cI, 6, .inl kf2)), (gw, .inl (cI, 6, .inl wf2)), (gs, .inl (cI, 6, .inl sf2))] := hD
  refine lv_aload_n hx hb dX3_becomeLike_47 rfl (lv_at hl 1 rfl) ?_
  refine va_get (D := (dC, dI)) (ci := 3) (v := .ref gw) (C := RX3) (T := TX3) (N := 7) hx hb hts hiX3 hown hK hP 4 rfl rfl 5 (by decide) (hts (.fieldLink RX3 22 "RestRegisters$Wheels" "widths" "[I") (by decide +kernel)) (fun _ h9 => h9) rfl dX3_becomeLike_48 ?_
  refine lv_iconst (v := (nI 0)) hx hb dX3_becomeLike_51 (by decide) ?_
  refine lv_aload_n hx hb dX3_becomeLike_52 rfl (lv_at hl 0 rfl) ?_
  refine va_get (D := (dC, dI)) (ci := 3) (v := .ref hw) (C := RX3) (T := TX3) (N := 7) hx hb hts hiX3 hown hK hP 0 rfl rfl 5 (by decide) (hts (.fieldLink RX3 22 "RestRegisters$Wheels" "widths" "[I") (by decide +kernel)) (fun _ h9 => h9) rfl dX3_becomeLike_53 ?_
  refine lv_iconst (v := (nI 0)) hx hb dX3_becomeLike_56 (by decide) ?_
  refine lv_bipush (v := (nI 6)) hx hb dX3_becomeLike_57 (by decide) ?_
  refine rn_copyi hx hb (hml.trans hl.1.symm) hown (hts (.methodLink RX3 38 arraycopyName) (by decide +kernel)) (hts (.native arraycopyName) (by decide +kernel)) (hts (.static arraycopyName) (by decide +kernel)) (hts (.initialized "java/lang/System") (by decide +kernel)) hK hP hD hS 6 2 0 0 rfl rfl rfl rfl rfl (sp := 0) (dp := 0) (n := 6) (by omega) (by omega) (by decide) (by decide) (fun _ _ => rfl) (Nat.le_of_ble_eq_true rfl) (Nat.le_of_ble_eq_true rfl) dX3_becomeLike_59 (fun H locs hP hD hS => ?_)
  have hP : va_P (dC, dI) vwCl [(h3, .inr (3, [.int (nI n2), .int (nI h2), .int (nI rg2), .int (nI sp2), .ref hk, .ref hw, .ref hs])), (hk, .inl (cI, 6, .inl (va_cpy kf2 kf 0 0 6))), (hw, .inl (cI, 6, .inl (va_cpy wf2 wf 0 0 6))), (hs, .inl (cI, 6, .inl sf)), (g3, .inr (3, [.int (nI n2), .int (nI h2), .int (nI rg2), .int (nI sp2), .ref gk, .ref gw, .ref gs])), (gk, .inl (cI, 6, .inl kf2)), (gw, .inl (cI, 6, .inl wf2)), (gs, .inl (cI, 6, .inl sf2))] H := hP
  have hD : va_D A [(h3, .inr (3, [.int (nI n2), .int (nI h2), .int (nI rg2), .int (nI sp2), .ref hk, .ref hw, .ref hs])), (hk, .inl (cI, 6, .inl (va_cpy kf2 kf 0 0 6))), (hw, .inl (cI, 6, .inl (va_cpy wf2 wf 0 0 6))), (hs, .inl (cI, 6, .inl sf)), (g3, .inr (3, [.int (nI n2), .int (nI h2), .int (nI rg2), .int (nI sp2), .ref gk, .ref gw, .ref gs])), (gk, .inl (cI, 6, .inl kf2)), (gw, .inl (cI, 6, .inl wf2)), (gs, .inl (cI, 6, .inl sf2))] := hD
  refine lv_aload_n hx hb dX3_becomeLike_62 rfl (lv_at hl 1 rfl) ?_
  refine va_get (D := (dC, dI)) (ci := 3) (v := .ref gs) (C := RX3) (T := TX3) (N := 7) hx hb hts hiX3 hown hK hP 4 rfl rfl 6 (by decide) (hts (.fieldLink RX3 25 "RestRegisters$Wheels" "shares" "[I") (by decide +kernel)) (fun _ h9 => h9) rfl dX3_becomeLike_63 ?_
  refine lv_iconst (v := (nI 0)) hx hb dX3_becomeLike_66 (by decide) ?_
  refine lv_aload_n hx hb dX3_becomeLike_67 rfl (lv_at hl 0 rfl) ?_
  refine va_get (D := (dC, dI)) (ci := 3) (v := .ref hs) (C := RX3) (T := TX3) (N := 7) hx hb hts hiX3 hown hK hP 0 rfl rfl 6 (by decide) (hts (.fieldLink RX3 25 "RestRegisters$Wheels" "shares" "[I") (by decide +kernel)) (fun _ h9 => h9) rfl dX3_becomeLike_68 ?_
  refine lv_iconst (v := (nI 0)) hx hb dX3_becomeLike_71 (by decide) ?_
  refine lv_bipush (v := (nI 6)) hx hb dX3_becomeLike_72 (by decide) ?_
  refine rn_copyi hx hb (hml.trans hl.1.symm) hown (hts (.methodLink RX3 38 arraycopyName) (by decide +kernel)) (hts (.native arraycopyName) (by decide +kernel)) (hts (.static arraycopyName) (by decide +kernel)) (hts (.initialized "java/lang/System") (by decide +kernel)) hK hP hD hS 7 3 0 0 rfl rfl rfl rfl rfl (sp := 0) (dp := 0) (n := 6) (by omega) (by omega) (by decide) (by decide) (fun _ _ => rfl) (Nat.le_of_ble_eq_true rfl) (Nat.le_of_ble_eq_true rfl) dX3_becomeLike_74 (fun H locs hP hD hS => ?_)
  have hP : va_P (dC, dI) vwCl [(h3, .inr (3, [.int (nI n2), .int (nI h2), .int (nI rg2), .int (nI sp2), .ref hk, .ref hw, .ref hs])), (hk, .inl (cI, 6, .inl (va_cpy kf2 kf 0 0 6))), (hw, .inl (cI, 6, .inl (va_cpy wf2 wf 0 0 6))), (hs, .inl (cI, 6, .inl (va_cpy sf2 sf 0 0 6))), (g3, .inr (3, [.int (nI n2), .int (nI h2), .int (nI rg2), .int (nI sp2), .ref gk, .ref gw, .ref gs])), (gk, .inl (cI, 6, .inl kf2)), (gw, .inl (cI, 6, .inl wf2)), (gs, .inl (cI, 6, .inl sf2))] H := hP
  have hD : va_D A [(h3, .inr (3, [.int (nI n2), .int (nI h2), .int (nI rg2), .int (nI sp2), .ref hk, .ref hw, .ref hs])), (hk, .inl (cI, 6, .inl (va_cpy kf2 kf 0 0 6))), (hw, .inl (cI, 6, .inl (va_cpy wf2 wf 0 0 6))), (hs, .inl (cI, 6, .inl (va_cpy sf2 sf 0 0 6))), (g3, .inr (3, [.int (nI n2), .int (nI h2), .int (nI rg2), .int (nI sp2), .ref gk, .ref gw, .ref gs])), (gk, .inl (cI, 6, .inl kf2)), (gw, .inl (cI, 6, .inl wf2)), (gs, .inl (cI, 6, .inl sf2))] := hD
  exact rr_vretW hx hb hr hlocks dX3_becomeLike_77 hP hD hS
set_option maxHeartbeats 4000000 in
set_option maxRecDepth 100000 in
theorem c_X3_findShares (l : Launch) (dC : Nat → ClassId) (dI : Nat → Nat → Nat) (cI cJ cS : ClassId) (sz : Nat) (h3 hk hw hs : Nat) (n h rg sp : Nat) (kf wf sf : Nat → Int32) (Kd Wd : Nat → Nat) (ok : wOk n Kd Wd) (fw : isA n wf Wd) (hsp : sp < 2 ^ 31) : Met l yX3_findShares wsX3_findShares ({ frames := 0, cells := 0, slots := 0, locals := 0 }) (va_Pc [.ref h3] (rW (dC, dI) vwCl [(h3, .inr (3, [.int (nI n), .int (nI h), .int (nI rg), .int (nI sp), .ref hk, .ref hw, .ref hs])), (hk, .inl (cI, 6, .inl kf)), (hw, .inl (cI, 6, .inl wf)), (hs, .inl (cI, 6, .inl sf))] (tyz cI cJ cS) sz)) (qV (dC, dI) vwCl [(h3, .inr (3, [.int (nI n), .int (nI h), .int (nI rg), .int (nI sp), .ref hk, .ref hw, .ref hs])), (hk, .inl (cI, 6, .inl kf)), (hw, .inl (cI, 6, .inl wf)), (hs, .inl (cI, 6, .inl (shF Wd sp sf n)))] (va_A [(h3, .inr (3, [.int (nI n), .int (nI h), .int (nI rg), .int (nI sp), .ref hk, .ref hw, .ref hs])), (hk, .inl (cI, 6, .inl kf)), (hw, .inl (cI, 6, .inl wf)), (hs, .inl (cI, 6, .inl sf))] sz)) 0 0 (va_A [(h3, .inr (3, [.int (nI n), .int (nI h), .int (nI rg), .int (nI sp), .ref hk, .ref hw, .ref hs])), (hk, .inl (cI, 6, .inl kf)), (hw, .inl (cI, 6, .inl wf)), (hs, .inl (cI, 6, .inl sf))] sz) := by
  refine Met.ofW (cc := cX3_findShares) (maxL := 5) (ret := none) (by decide) rfl ?_
  intro p e s m args below meth c s₁ B hml hv
  obtain ⟨rfl, hsz, hP, hKK, hD0⟩ := hv
  have hK := hKK.1
  have hx := B.exec
  have hb := B.bytes
  have hr := B.returns
  have hts := atoms_spec (ws := wsX3_findShares) B.pre
  have hown : s.vm.findClass RX3 = some m.cls := findClass_of_methodNamed B.named
  have hlocks := B.notSynchronized
  subst hsz
  have hD := hD0.self (sz := s.heap.size)
  generalize hAe : va_A [(h3, .inr (3, [.int (nI n), .int (nI h), .int (nI rg), .int (nI sp), .ref hk, .ref hw, .ref hs])), (hk, .inl (cI, 6, .inl kf)), (hw, .inl (cI, 6, .inl wf)), (hs, .inl (cI, 6, .inl sf))] s.heap.size = A at hD ⊢
  have hA : ∀ q : Nat, s.heap.size ≤ q → A q := fun q h => by rw [← hAe]; exact Or.inr h
  have hS : va_S A s.heap s.heap [] := va_S.rf
  have hP : va_P (dC, dI) vwCl [(h3, .inr (3, [.int (nI n), .int (nI h), .int (nI rg), .int (nI sp), .ref hk, .ref hw, .ref hs])), (hk, .inl (cI, 6, .inl kf)), (hw, .inl (cI, 6, .inl wf)), (hs, .inl (cI, 6, .inl sf))] s.heap := hP
  have hiX3 : ∀ w ∈ wsX30, w ∈ wsX3_findShares := by decide +kernel
  have hl := lv_entry ([.ref h3]) (n := 5) (Nat.le_of_ble_eq_true rfl)
  rw [lg_entry_eq]
  generalize (lg_sl ([.ref h3]) ++ List.replicate (5 - (lg_sl ([.ref h3])).length) Slot.unset).toArray = ls at hl ⊢
  have hl : lv_has ls 5 [(0, .ref h3)] := hl
  have hn6 := ok.1
  refine lv_iconst (v := (nI 0)) hx hb dX3_findShares_0 (by decide) ?_
  refine lv_istore_n (lv' := [(1, .int (nI 0)), (0, .ref h3)]) hx hb dX3_findShares_1 rfl hl (by decide) rfl (fun ls hl => ?_)
  have ec : sf = shF Wd sp sf 0 := shF_0 Wd sp sf
  rw [ec] at hP hD
  have hP : va_P (dC, dI) vwCl [(h3, .inr (3, [.int (nI n), .int (nI h), .int (nI rg), .int (nI sp), .ref hk, .ref hw, .ref hs])), (hk, .inl (cI, 6, .inl kf)), (hw, .inl (cI, 6, .inl wf)), (hs, .inl (cI, 6, .inl (shF Wd sp sf 0)))] s.heap := hP
  have hD : va_D A [(h3, .inr (3, [.int (nI n), .int (nI h), .int (nI rg), .int (nI sp), .ref hk, .ref hw, .ref hs])), (hk, .inl (cI, 6, .inl kf)), (hw, .inl (cI, 6, .inl wf)), (hs, .inl (cI, 6, .inl (shF Wd sp sf 0)))] := hD
  refine rlW1 (A1 := Nat) (fun H locs ls => W p l e _ s m _ below meth c H locs 0 0 _ (F0 m 2 ls [])) (fun j H locs ls => j ≤ n ∧ va_P (dC, dI) vwCl [(h3, .inr (3, [.int (nI n), .int (nI h), .int (nI rg), .int (nI sp), .ref hk, .ref hw, .ref hs])), (hk, .inl (cI, 6, .inl kf)), (hw, .inl (cI, 6, .inl wf)), (hs, .inl (cI, 6, .inl (shF Wd sp sf j)))] H ∧ va_D A [(h3, .inr (3, [.int (nI n), .int (nI h), .int (nI rg), .int (nI sp), .ref hk, .ref hw, .ref hs])), (hk, .inl (cI, 6, .inl kf)), (hw, .inl (cI, 6, .inl wf)), (hs, .inl (cI, 6, .inl (shF Wd sp sf j)))] ∧ va_S A s.heap H locs ∧ lv_has ls 5 [(1, .int (nI j)), (0, .ref h3)]) (fun j => n - j) ?_ 0 _ _ ls ⟨by omega, hP, hD, hS, lv_sub hl [0, 1] rfl⟩
  rintro j H locs ls ⟨hj, hP, hD, hS, hl⟩ ih2
  refine lv_iload_n hx hb dX3_findShares_2 rfl (lv_at hl 0 rfl) ?_
  refine lv_aload_n hx hb dX3_findShares_3 rfl (lv_at hl 1 rfl) ?_
  refine va_get (D := (dC, dI)) (ci := 3) (v := .int (nI n)) (C := RX3) (T := TX3) (N := 7) hx hb hts hiX3 hown hK hP 0 rfl rfl 0 (by decide) (hts (.fieldLink RX3 28 "RestRegisters$Wheels" "size" "I") (by decide +kernel)) (fun _ h9 => h9) rfl dX3_findShares_4 ?_
  refine rn_icmp_ge (tgt := 65) hx hb dX3_findShares_7 (by decide) (by omega) (by omega) (fun c7 => ?_) (fun c7 => ?_)
  · skip
    have ej : j = n := Nat.le_antisymm hj c7
    subst ej
    exact rr_vretW hx hb hr hlocks dX3_findShares_65 hP hD hS
  refine lv_aload_n hx hb dX3_findShares_10 rfl (lv_at hl 1 rfl) ?_
  refine va_get (D := (dC, dI)) (ci := 3) (v := .ref hw) (C := RX3) (T := TX3) (N := 7) hx hb hts hiX3 hown hK hP 0 rfl rfl 5 (by decide) (hts (.fieldLink RX3 22 "RestRegisters$Wheels" "widths" "[I") (by decide +kernel)) (fun _ h9 => h9) rfl dX3_findShares_11 ?_
  refine lv_iload_n hx hb dX3_findShares_14 rfl (lv_at hl 0 rfl) ?_
  refine rn_iald hx hb hK hP 2 0 rfl rfl (i := j) (by omega) (by decide) (v := (nI (Wd j))) (fw j (by omega)) dX3_findShares_15 ?_
  have hv15 := ok.2.2.1 j (by omega)
  refine lv_istore_n (lv' := [(2, .int (nI (Wd j))), (1, .int (nI j)), (0, .ref h3)]) hx hb dX3_findShares_16 rfl hl (by decide) rfl (fun ls hl => ?_)
  refine lv_aload_n hx hb dX3_findShares_17 rfl (lv_at hl 2 rfl) ?_
  refine va_get (D := (dC, dI)) (ci := 3) (v := .int (nI sp)) (C := RX3) (T := TX3) (N := 7) hx hb hts hiX3 hown hK hP 0 rfl rfl 3 (by decide) (hts (.fieldLink RX3 15 "RestRegisters$Wheels" "span" "I") (by decide +kernel)) (fun _ h9 => h9) rfl dX3_findShares_18 ?_
  refine lv_iload_n hx hb dX3_findShares_21 rfl (lv_at hl 0 rfl) ?_
  refine rn_idiv hx hb dX3_findShares_22 (by omega) (by omega) (by omega) ?_
  refine lv_istore_n (lv' := [(3, .int (nI (sp / (Wd j)))), (2, .int (nI (Wd j))), (1, .int (nI j)), (0, .ref h3)]) hx hb dX3_findShares_23 rfl hl (by decide) rfl (fun ls hl => ?_)
  refine lv_iconst (v := (nI 1)) hx hb dX3_findShares_24 (by decide) ?_
  refine lv_istore (lv' := [(4, .int (nI 1)), (3, .int (nI (sp / (Wd j)))), (2, .int (nI (Wd j))), (1, .int (nI j)), (0, .ref h3)]) hx hb dX3_findShares_25 hl (by decide) rfl (fun ls hl => ?_)
  have ec : shF Wd sp sf j = shG Wd sp sf j 1 := shG_1 Wd sp sf j
  rw [ec] at hP hD
  have hP : va_P (dC, dI) vwCl [(h3, .inr (3, [.int (nI n), .int (nI h), .int (nI rg), .int (nI sp), .ref hk, .ref hw, .ref hs])), (hk, .inl (cI, 6, .inl kf)), (hw, .inl (cI, 6, .inl wf)), (hs, .inl (cI, 6, .inl (shG Wd sp sf j 1)))] H := hP
  have hD : va_D A [(h3, .inr (3, [.int (nI n), .int (nI h), .int (nI rg), .int (nI sp), .ref hk, .ref hw, .ref hs])), (hk, .inl (cI, 6, .inl kf)), (hw, .inl (cI, 6, .inl wf)), (hs, .inl (cI, 6, .inl (shG Wd sp sf j 1)))] := hD
  refine rlW1 (A1 := Nat) (fun H locs ls => W p l e _ s m _ below meth c H locs 0 0 _ (F0 m 27 ls [])) (fun k H locs ls => k ≤ Wd j ∧ va_P (dC, dI) vwCl [(h3, .inr (3, [.int (nI n), .int (nI h), .int (nI rg), .int (nI sp), .ref hk, .ref hw, .ref hs])), (hk, .inl (cI, 6, .inl kf)), (hw, .inl (cI, 6, .inl wf)), (hs, .inl (cI, 6, .inl (shG Wd sp sf j k)))] H ∧ va_D A [(h3, .inr (3, [.int (nI n), .int (nI h), .int (nI rg), .int (nI sp), .ref hk, .ref hw, .ref hs])), (hk, .inl (cI, 6, .inl kf)), (hw, .inl (cI, 6, .inl wf)), (hs, .inl (cI, 6, .inl (shG Wd sp sf j k)))] ∧ va_S A s.heap H locs ∧ lv_has ls 5 [(4, .int (nI k)), (3, .int (nI (sp / (Wd j)))), (2, .int (nI (Wd j))), (1, .int (nI j)), (0, .ref h3)]) (fun k => Wd j - k) ?_ 1 H locs ls ⟨by omega, hP, hD, hS, lv_sub hl [0, 1, 2, 3, 4] rfl⟩
  rintro k H locs ls ⟨hk2, hP, hD, hS, hl⟩ ih27
  refine lv_iload hx hb dX3_findShares_27 (lv_at hl 0 rfl) ?_
  refine lv_iload_n hx hb dX3_findShares_29 rfl (lv_at hl 2 rfl) ?_
  refine rn_icmp_ge (tgt := 59) hx hb dX3_findShares_30 (by decide) (by omega) (by omega) (fun c30 => ?_) (fun c30 => ?_)
  · skip
    have ek : k = Wd j := Nat.le_antisymm hk2 c30
    subst ek
    have ec : shG Wd sp sf j (Wd j) = shF Wd sp sf (j + 1) := shG_end Wd sp sf j
    rw [ec] at hP hD
    have hP : va_P (dC, dI) vwCl [(h3, .inr (3, [.int (nI n), .int (nI h), .int (nI rg), .int (nI sp), .ref hk, .ref hw, .ref hs])), (hk, .inl (cI, 6, .inl kf)), (hw, .inl (cI, 6, .inl wf)), (hs, .inl (cI, 6, .inl (shF Wd sp sf (j + 1))))] H := hP
    have hD : va_D A [(h3, .inr (3, [.int (nI n), .int (nI h), .int (nI rg), .int (nI sp), .ref hk, .ref hw, .ref hs])), (hk, .inl (cI, 6, .inl kf)), (hw, .inl (cI, 6, .inl wf)), (hs, .inl (cI, 6, .inl (shF Wd sp sf (j + 1))))] := hD
    refine lv_iinc (v := (nI (j + 1))) (lv' := [(1, .int (nI (j + 1))), (4, .int (nI (Wd j))), (3, .int (nI (sp / (Wd j)))), (2, .int (nI (Wd j))), (0, .ref h3)]) hx hb dX3_findShares_59 hl (k := 3) rfl (rn_inc j 1) (by decide) rfl (fun ls hl => ?_)
    refine lv_goto (tgt := 2) hx hb dX3_findShares_62 (by decide) ?_
    exact ih2 (j + 1) _ _ ls ⟨by omega, hP, hD, hS, lv_sub hl [0, 4] rfl⟩ (by omega)
  refine lv_iload_n hx hb dX3_findShares_33 rfl (lv_at hl 1 rfl) ?_
  refine lv_iload hx hb dX3_findShares_34 (lv_at hl 0 rfl) ?_
  refine rn_imul hx hb dX3_findShares_36 ?_
  have hok : sp / Wd j * k < 2 ^ 31 := Nat.lt_of_le_of_lt (Nat.le_trans (Nat.mul_le_mul_left _ (Nat.le_of_lt c30)) (Nat.div_mul_le_self _ _)) hsp
  refine lv_iload_n hx hb dX3_findShares_37 rfl (lv_at hl 2 rfl) ?_
  refine rn_irem hx hb dX3_findShares_38 (by omega) (by omega) (by omega) ?_
  refine lv_iconst (v := (nI 1)) hx hb dX3_findShares_39 (by decide) ?_
  have hmm := Nat.mod_lt (sp / Wd j * k) (show 0 < Wd j by omega)
  refine rn_icmp_ne (tgt := 53) hx hb dX3_findShares_40 (by decide) (by omega) (by omega) (fun c40 => ?_) (fun c40 => ?_)
  · skip
    have ec : shG Wd sp sf j k = shG Wd sp sf j (k + 1) := shG_no c40
    rw [ec] at hP hD
    have hP : va_P (dC, dI) vwCl [(h3, .inr (3, [.int (nI n), .int (nI h), .int (nI rg), .int (nI sp), .ref hk, .ref hw, .ref hs])), (hk, .inl (cI, 6, .inl kf)), (hw, .inl (cI, 6, .inl wf)), (hs, .inl (cI, 6, .inl (shG Wd sp sf j (k + 1))))] H := hP
    have hD : va_D A [(h3, .inr (3, [.int (nI n), .int (nI h), .int (nI rg), .int (nI sp), .ref hk, .ref hw, .ref hs])), (hk, .inl (cI, 6, .inl kf)), (hw, .inl (cI, 6, .inl wf)), (hs, .inl (cI, 6, .inl (shG Wd sp sf j (k + 1))))] := hD
    refine lv_iinc (v := (nI (k + 1))) (lv' := [(4, .int (nI (k + 1))), (3, .int (nI (sp / (Wd j)))), (2, .int (nI (Wd j))), (1, .int (nI j)), (0, .ref h3)]) hx hb dX3_findShares_53 hl (k := 0) rfl (rn_inc k 1) (by decide) rfl (fun ls hl => ?_)
    refine lv_goto (tgt := 27) hx hb dX3_findShares_56 (by decide) ?_
    exact ih27 (k + 1) _ _ ls ⟨by omega, hP, hD, hS, lv_sub hl [0, 1, 2, 3, 4] rfl⟩ (by omega)
  refine lv_aload_n hx hb dX3_findShares_43 rfl (lv_at hl 4 rfl) ?_
  refine va_get (D := (dC, dI)) (ci := 3) (v := .ref hs) (C := RX3) (T := TX3) (N := 7) hx hb hts hiX3 hown hK hP 0 rfl rfl 6 (by decide) (hts (.fieldLink RX3 25 "RestRegisters$Wheels" "shares" "[I") (by decide +kernel)) (fun _ h9 => h9) rfl dX3_findShares_44 ?_
  refine lv_iload_n hx hb dX3_findShares_47 rfl (lv_at hl 3 rfl) ?_
  refine lv_iload_n hx hb dX3_findShares_48 rfl (lv_at hl 1 rfl) ?_
  refine lv_iload hx hb dX3_findShares_49 (lv_at hl 0 rfl) ?_
  refine rn_imul hx hb dX3_findShares_51 ?_
  refine rn_iast hx hb hK hP hD hS 3 0 rfl rfl (i := j) (by omega) (by decide) (g := shG Wd sp sf j (k + 1)) (shG_yes c40) dX3_findShares_52 (fun H locs hP hD hS => ?_)
  have hP : va_P (dC, dI) vwCl [(h3, .inr (3, [.int (nI n), .int (nI h), .int (nI rg), .int (nI sp), .ref hk, .ref hw, .ref hs])), (hk, .inl (cI, 6, .inl kf)), (hw, .inl (cI, 6, .inl wf)), (hs, .inl (cI, 6, .inl (shG Wd sp sf j (k + 1))))] H := hP
  have hD : va_D A [(h3, .inr (3, [.int (nI n), .int (nI h), .int (nI rg), .int (nI sp), .ref hk, .ref hw, .ref hs])), (hk, .inl (cI, 6, .inl kf)), (hw, .inl (cI, 6, .inl wf)), (hs, .inl (cI, 6, .inl (shG Wd sp sf j (k + 1))))] := hD
  refine lv_iinc (v := (nI (k + 1))) (lv' := [(4, .int (nI (k + 1))), (3, .int (nI (sp / (Wd j)))), (2, .int (nI (Wd j))), (1, .int (nI j)), (0, .ref h3)]) hx hb dX3_findShares_53 hl (k := 0) rfl (rn_inc k 1) (by decide) rfl (fun ls hl => ?_)
  refine lv_goto (tgt := 27) hx hb dX3_findShares_56 (by decide) ?_
  exact ih27 (k + 1) _ _ ls ⟨by omega, hP, hD, hS, lv_sub hl [0, 1, 2, 3, 4] rfl⟩ (by omega)
