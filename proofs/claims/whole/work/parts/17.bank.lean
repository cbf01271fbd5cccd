set_option maxHeartbeats 4000000 in
set_option maxRecDepth 100000 in
theorem c_X0_shown (l : Launch) (dC : Nat → ClassId) (dI : Nat → Nat → Nat) (cI cJ cS : ClassId) (b0 h3 hrs hpr hpd : Nat) (dr kn nx : Nat) (Rr : Nat → Nat) (r k : Nat) (hr4 : r < 4) (hk6 : k < 6) : Met l yX0_shown wsX0_shown ({ frames := 0, cells := 0, slots := 0, locals := 0 }) (va_Pc [.ref b0, .int (nI r), .int (nI k)] (rB (dC, dI) vwCl [(b0, .inr (0, [.ref h3, .ref hrs, .int (nI dr), .int (nI kn), .int (nI nx), .ref hpr, .ref hpd])), (hrs, .inl (cI, 24, .inl (nA Rr)))] (tyz cI cJ cS))) (QcRead (nI (Rr (r * 6 + k)))) 0 0 (fun _ => False) := by
  refine Met.ofW (cc := cX0_shown) (maxL := 3) (ret := (some .int)) (by decide) rfl ?_
  intro p e s m args below meth c s₁ B hml hv
  obtain ⟨rfl, hP, hKK⟩ := hv
  have hK := hKK.1
  have hx := B.exec
  have hb := B.bytes
  have hr := B.returns
  have hts := atoms_spec (ws := wsX0_shown) B.pre
  have hown : s.vm.findClass RX0 = some m.cls := findClass_of_methodNamed B.named
  have hlocks := B.notSynchronized
  have hiX0 : ∀ w ∈ wsX00, w ∈ wsX0_shown := by decide +kernel
  have hl := lv_entry ([.ref b0, .int (nI r), .int (nI k)]) (n := 3) (Nat.le_of_ble_eq_true rfl)
  rw [lg_entry_eq]
  generalize (lg_sl ([.ref b0, .int (nI r), .int (nI k)]) ++ List.replicate (3 - (lg_sl ([.ref b0, .int (nI r), .int (nI k)])).length) Slot.unset).toArray = ls at hl ⊢
  have hl : lv_has ls 3 [(0, .ref b0), (1, .int (nI r)), (2, .int (nI k))] := hl
  refine lv_aload_n hx hb dX0_shown_0 rfl (lv_at hl 0 rfl) ?_
  refine va_get (D := (dC, dI)) (ci := 0) (v := .ref hrs) (C := RX0) (T := TX0) (N := 7) hx hb hts hiX0 hown hK hP 0 rfl rfl 1 (by decide) (hts (.fieldLink RX0 18 "RestRegisters$Bank" "rests" "[I") (by decide +kernel)) (fun _ h9 => h9) rfl dX0_shown_1 ?_
  refine lv_iload_n hx hb dX0_shown_4 rfl (lv_at hl 1 rfl) ?_
  refine lv_bipush (v := (nI 6)) hx hb dX0_shown_5 (by decide) ?_
  refine rn_imul hx hb dX0_shown_7 ?_
  refine lv_iload_n hx hb dX0_shown_8 rfl (lv_at hl 2 rfl) ?_
  refine rn_iadd hx hb dX0_shown_9 ?_
  refine rn_iald hx hb hK hP 1 0 rfl rfl (i := r * 6 + k) (by omega) (by decide) (v := (nI (Rr (r * 6 + k)))) rfl dX0_shown_10 ?_
  exact rr_iret hx hb hr hlocks dX0_shown_11 (rfl)
set_option maxHeartbeats 4000000 in
set_option maxRecDepth 100000 in
theorem c_X0_show (l : Launch) (dC : Nat → ClassId) (dI : Nat → Nat → Nat) (cI cJ cS : ClassId) (sz : Nat) (b0 h3 hrs hpr hpd : Nat) (dr kn nx : Nat) (Rr : Nat → Nat) (r k x : Nat) (hr4 : r < 4) (hk6 : k < 6) : Met l yX0_show wsX0_show ({ frames := 0, cells := 0, slots := 0, locals := 0 }) (va_Pc [.ref b0, .int (nI r), .int (nI k), .int (nI x)] (rW (dC, dI) vwCl [(b0, .inr (0, [.ref h3, .ref hrs, .int (nI dr), .int (nI kn), .int (nI nx), .ref hpr, .ref hpd])), (hrs, .inl (cI, 24, .inl (nA Rr)))] (tyz cI cJ cS) sz)) (qV (dC, dI) vwCl [(b0, .inr (0, [.ref h3, .ref hrs, .int (nI dr), .int (nI kn), .int (nI nx), .ref hpr, .ref hpd])), (hrs, .inl (cI, 24, .inl (nA (uN Rr (r * 6 + k) x))))] (va_A [(b0, .inr (0, [.ref h3, .ref hrs, .int (nI dr), .int (nI kn), .int (nI nx), .ref hpr, .ref hpd])), (hrs, .inl (cI, 24, .inl (nA Rr)))] sz)) 0 0 (va_A [(b0, .inr (0, [.ref h3, .ref hrs, .int (nI dr), .int (nI kn), .int (nI nx), .ref hpr, .ref hpd])), (hrs, .inl (cI, 24, .inl (nA Rr)))] sz) := by
  refine Met.ofW (cc := cX0_show) (maxL := 4) (ret := none) (by decide) rfl ?_
  intro p e s m args below meth c s₁ B hml hv
  obtain ⟨rfl, hsz, hP, hKK, hD0⟩ := hv
  have hK := hKK.1
  have hx := B.exec
  have hb := B.bytes
  have hr := B.returns
  have hts := atoms_spec (ws := wsX0_show) B.pre
  have hown : s.vm.findClass RX0 = some m.cls := findClass_of_methodNamed B.named
  have hlocks := B.notSynchronized
  subst hsz
  have hD := hD0.self (sz := s.heap.size)
  generalize hAe : va_A [(b0, .inr (0, [.ref h3, .ref hrs, .int (nI dr), .int (nI kn), .int (nI nx), .ref hpr, .ref hpd])), (hrs, .inl (cI, 24, .inl (nA Rr)))] s.heap.size = A at hD ⊢
  have hA : ∀ q : Nat, s.heap.size ≤ q → A q := fun q h => by rw [← hAe]; exact Or.inr h
  have hS : va_S A s.heap s.heap [] := va_S.rf
  have hP : va_P (dC, dI) vwCl [(b0, .inr (0, [.ref h3, .ref hrs, .int (nI dr), .int (nI kn), .int (nI nx), .ref hpr, .ref hpd])), (hrs, .inl (cI, 24, .inl (nA Rr)))] s.heap := hP
  have hiX0 : ∀ w ∈ wsX00, w ∈ wsX0_show := by decide +kernel
  have hl := lv_entry ([.ref b0, .int (nI r), .int (nI k), .int (nI x)]) (n := 4) (Nat.le_of_ble_eq_true rfl)
  rw [lg_entry_eq]
  generalize (lg_sl ([.ref b0, .int (nI r), .int (nI k), .int (nI x)]) ++ List.replicate (4 - (lg_sl ([.ref b0, .int (nI r), .int (nI k), .int (nI x)])).length) Slot.unset).toArray = ls at hl ⊢
  have hl : lv_has ls 4 [(0, .ref b0), (1, .int (nI r)), (2, .int (nI k)), (3, .int (nI x))] := hl
  refine lv_aload_n hx hb dX0_show_0 rfl (lv_at hl 0 rfl) ?_
  refine va_get (D := (dC, dI)) (ci := 0) (v := .ref hrs) (C := RX0) (T := TX0) (N := 7) hx hb hts hiX0 hown hK hP 0 rfl rfl 1 (by decide) (hts (.fieldLink RX0 18 "RestRegisters$Bank" "rests" "[I") (by decide +kernel)) (fun _ h9 => h9) rfl dX0_show_1 ?_
  refine lv_iload_n hx hb dX0_show_4 rfl (lv_at hl 1 rfl) ?_
  refine lv_bipush (v := (nI 6)) hx hb dX0_show_5 (by decide) ?_
  refine rn_imul hx hb dX0_show_7 ?_
  refine lv_iload_n hx hb dX0_show_8 rfl (lv_at hl 2 rfl) ?_
  refine rn_iadd hx hb dX0_show_9 ?_
  refine lv_iload_n hx hb dX0_show_10 rfl (lv_at hl 3 rfl) ?_
  refine rn_iast hx hb hK hP hD hS 1 0 rfl rfl (i := r * 6 + k) (by omega) (by decide) (g := nA (uN Rr (r * 6 + k) x)) (nA_upd _ _ _) dX0_show_11 (fun H locs hP hD hS => ?_)
  have hP : va_P (dC, dI) vwCl [(b0, .inr (0, [.ref h3, .ref hrs, .int (nI dr), .int (nI kn), .int (nI nx), .ref hpr, .ref hpd])), (hrs, .inl (cI, 24, .inl (nA (uN Rr (r * 6 + k) x))))] H := hP
  have hD : va_D A [(b0, .inr (0, [.ref h3, .ref hrs, .int (nI dr), .int (nI kn), .int (nI nx), .ref hpr, .ref hpd])), (hrs, .inl (cI, 24, .inl (nA (uN Rr (r * 6 + k) x))))] := hD
  exact rr_vretW hx hb hr hlocks dX0_show_12 hP hD hS
set_option maxHeartbeats 4000000 in
set_option maxRecDepth 100000 in
theorem c_X0_value (l : Launch) (dC : Nat → ClassId) (dI : Nat → Nat → Nat) (cI cJ cS : ClassId) (b0 h3 hk hw hs hrs hpr hpd : Nat) (n h rg sp dr kn nx : Nat) (kf wf sf : Nat → Int32) (Kd Wd Sh Rr Pr Pd : Nat → Nat) (r : Nat) (ok : wOk n Kd Wd) (fs : isA n sf Sh) (hS : ∀ j, j < n → Sh j < sp) (hsp : sp ≤ 47045881) (hsp0 : 0 < sp) (hR : rOk n Wd Rr) (hr4 : r < 4) : Met l yX0_value wsX0_value ({ frames := 1, cells := 0, slots := 0, locals := 22 }) (va_Pc [.ref b0, .int (nI r)] (rB (dC, dI) vwCl [(b0, .inr (0, [.ref h3, .ref hrs, .int (nI dr), .int (nI kn), .int (nI nx), .ref hpr, .ref hpd])), (h3, .inr (3, [.int (nI n), .int (nI h), .int (nI rg), .int (nI sp), .ref hk, .ref hw, .ref hs])), (hk, .inl (cI, 6, .inl kf)), (hw, .inl (cI, 6, .inl wf)), (hs, .inl (cI, 6, .inl sf)), (hrs, .inl (cI, 24, .inl (nA Rr))), (hpr, .inl (cI, 192, .inl (nA Pr))), (hpd, .inl (cI, 8, .inl (nA Pd)))] (tyz cI cJ cS))) (QcRead (nI (vR Sh Rr sp n r))) 0 0 (fun _ => False) := by
  refine Met.ofW (cc := cX0_value) (maxL := 4) (ret := (some .int)) (by decide) rfl ?_
  intro p e s m args below meth c s₁ B hml hv
  obtain ⟨rfl, hP, hKK⟩ := hv
  have hK := hKK.1
  have hx := B.exec
  have hb := B.bytes
  have hr := B.returns
  have hts := atoms_spec (ws := wsX0_value) B.pre
  have hown : s.vm.findClass RX0 = some m.cls := findClass_of_methodNamed B.named
  have hlocks := B.notSynchronized
  have hiX0 : ∀ w ∈ wsX00, w ∈ wsX0_value := by decide +kernel
  have hiX3 : ∀ w ∈ wsX30, w ∈ wsX0_value := by decide +kernel
  have hl := lv_entry ([.ref b0, .int (nI r)]) (n := 4) (Nat.le_of_ble_eq_true rfl)
  rw [lg_entry_eq]
  generalize (lg_sl ([.ref b0, .int (nI r)]) ++ List.replicate (4 - (lg_sl ([.ref b0, .int (nI r)])).length) Slot.unset).toArray = ls at hl ⊢
  have hl : lv_has ls 4 [(0, .ref b0), (1, .int (nI r))] := hl
  have hn6 := ok.1
  refine lv_iconst (v := (nI 0)) hx hb dX0_value_0 (by decide) ?_
  refine lv_istore_n (lv' := [(2, .int (nI 0)), (0, .ref b0), (1, .int (nI r))]) hx hb dX0_value_1 rfl hl (by decide) rfl (fun ls hl => ?_)
  refine lv_iconst (v := (nI 0)) hx hb dX0_value_2 (by decide) ?_
  refine lv_istore_n (lv' := [(3, .int (nI 0)), (2, .int (nI 0)), (0, .ref b0), (1, .int (nI r))]) hx hb dX0_value_3 rfl hl (by decide) rfl (fun ls hl => ?_)
  refine rl1 (A1 := Nat) (fun ls => W p l e _ s m _ below meth c s.heap [] 0 0 _ (F0 m 4 ls [])) (fun k ls => k ≤ n ∧ lv_has ls 4 [(3, .int (nI k)), (2, .int (nI (vS Sh (fun k => Rr (r * 6 + k)) sp k))), (0, .ref b0), (1, .int (nI r))]) (fun k => n - k) ?_ 0 ls ⟨by omega, lv_sub hl [0, 1, 2, 3] rfl⟩
  rintro k ls ⟨hi, hl⟩ ih4
  refine lv_iload_n hx hb dX0_value_4 rfl (lv_at hl 0 rfl) ?_
  refine lv_aload_n hx hb dX0_value_5 rfl (lv_at hl 2 rfl) ?_
  refine va_get (D := (dC, dI)) (ci := 0) (v := .ref h3) (C := RX0) (T := TX0) (N := 7) hx hb hts hiX0 hown hK hP 0 rfl rfl 0 (by decide) (hts (.fieldLink RX0 12 "RestRegisters$Bank" "wheels" "LRestRegisters$Wheels;") (by decide +kernel)) (fun _ h9 => h9) rfl dX0_value_6 ?_
  refine va_get (D := (dC, dI)) (ci := 3) (v := .int (nI n)) (C := RX3) (T := TX3) (N := 7) hx hb hts hiX3 hown hK hP 1 rfl rfl 0 (by decide) (hts (.fieldLink RX0 54 "RestRegisters$Wheels" "size" "I") (by decide +kernel)) (fun _ h9 => h9) rfl dX0_value_9 ?_
  refine rn_icmp_ge (tgt := 48) hx hb dX0_value_12 (by decide) (by omega) (by omega) (fun c12 => ?_) (fun c12 => ?_)
  · skip
    refine lv_iload_n hx hb dX0_value_48 rfl (lv_at hl 1 rfl) ?_
    exact rr_iret hx hb hr hlocks dX0_value_49 (by rw [Nat.le_antisymm hi c12]; rfl)
  refine lv_iload_n hx hb dX0_value_15 rfl (lv_at hl 1 rfl) ?_
  refine lv_aload_n hx hb dX0_value_16 rfl (lv_at hl 2 rfl) ?_
  refine lv_iload_n hx hb dX0_value_17 rfl (lv_at hl 3 rfl) ?_
  refine lv_iload_n hx hb dX0_value_18 rfl (lv_at hl 0 rfl) ?_
  refine rr_callR (va_runV (As := [.int (nI r), .int (nI k)]) (rest := [.int (nI (vS Sh (fun k => Rr (r * 6 + k)) sp k))]) ⟨hx, hb, hml, hown, hts⟩ (c_X0_shown l dC dI cI cJ cS b0 h3 hrs hpr hpd dr kn nx Rr r k (by first | assumption | omega) (by first | assumption | omega)) (cwV 2 hts gX0_value_X0_shown rfl rfl rfl (by decide +kernel) ⟨Nat.le_of_ble_eq_true rfl, Nat.le_of_ble_eq_true rfl⟩) (rr_preV hKK (hP.sub [0, 5] rfl) rfl rfl) rfl rfl hl.1 rfl (lv_room (Nat.le_of_ble_eq_true rfl)) dX0_value_19 ⟨Nat.zero_le _, Nat.zero_le _⟩) ?_
  refine lv_aload_n hx hb dX0_value_22 rfl (lv_at hl 2 rfl) ?_
  refine va_get (D := (dC, dI)) (ci := 0) (v := .ref h3) (C := RX0) (T := TX0) (N := 7) hx hb hts hiX0 hown hK hP 0 rfl rfl 0 (by decide) (hts (.fieldLink RX0 12 "RestRegisters$Bank" "wheels" "LRestRegisters$Wheels;") (by decide +kernel)) (fun _ h9 => h9) rfl dX0_value_23 ?_
  refine va_get (D := (dC, dI)) (ci := 3) (v := .ref hs) (C := RX3) (T := TX3) (N := 7) hx hb hts hiX3 hown hK hP 1 rfl rfl 6 (by decide) (hts (.fieldLink RX0 60 "RestRegisters$Wheels" "shares" "[I") (by decide +kernel)) (fun _ h9 => h9) rfl dX0_value_26 ?_
  refine lv_iload_n hx hb dX0_value_29 rfl (lv_at hl 0 rfl) ?_
  refine rn_iald hx hb hK hP 4 0 rfl rfl (i := k) (by omega) (by decide) (v := (nI (Sh k))) (fs k (by omega)) dX0_value_30 ?_
  have hq1 := hS k (by omega)
  have hq2 := hR r k hr4 (by omega)
  have hq3 := ok.2.2.1 k (by omega)
  have hq4 := vS_lt (S := Sh) (r := fun k => Rr (r * 6 + k)) hsp0 k
  have hmul : Rr (r * 6 + k) * Sh k ≤ 18 * 47045881 := Nat.mul_le_mul (by omega) (by omega)
  refine rn_imul hx hb dX0_value_31 ?_
  refine rn_iadd hx hb dX0_value_32 ?_
  refine lv_aload_n hx hb dX0_value_33 rfl (lv_at hl 2 rfl) ?_
  refine va_get (D := (dC, dI)) (ci := 0) (v := .ref h3) (C := RX0) (T := TX0) (N := 7) hx hb hts hiX0 hown hK hP 0 rfl rfl 0 (by decide) (hts (.fieldLink RX0 12 "RestRegisters$Bank" "wheels" "LRestRegisters$Wheels;") (by decide +kernel)) (fun _ h9 => h9) rfl dX0_value_34 ?_
  refine va_get (D := (dC, dI)) (ci := 3) (v := .int (nI sp)) (C := RX3) (T := TX3) (N := 7) hx hb hts hiX3 hown hK hP 1 rfl rfl 3 (by decide) (hts (.fieldLink RX0 63 "RestRegisters$Wheels" "span" "I") (by decide +kernel)) (fun _ h9 => h9) rfl dX0_value_37 ?_
  refine rn_irem hx hb dX0_value_40 (by omega) (by omega) (by omega) ?_
  refine rn_top (y := vS Sh (fun k => Rr (r * 6 + k)) sp (k + 1)) (rfl) ?_
  refine lv_istore_n (lv' := [(2, .int (nI (vS Sh (fun k => Rr (r * 6 + k)) sp (k + 1)))), (3, .int (nI k)), (0, .ref b0), (1, .int (nI r))]) hx hb dX0_value_41 rfl hl (by decide) rfl (fun ls hl => ?_)
  refine lv_iinc (v := (nI (k + 1))) (lv' := [(3, .int (nI (k + 1))), (2, .int (nI (vS Sh (fun k => Rr (r * 6 + k)) sp (k + 1)))), (0, .ref b0), (1, .int (nI r))]) hx hb dX0_value_42 hl (k := 1) rfl (rn_inc k 1) (by decide) rfl (fun ls hl => ?_)
  refine lv_goto (tgt := 4) hx hb dX0_value_45 (by decide) ?_
  exact ih4 (k + 1) ls ⟨by omega, lv_sub hl [0, 1, 2, 3] rfl⟩ (by omega)
set_option maxHeartbeats 4000000 in
set_option maxRecDepth 100000 in
theorem c_X0_isLegal (l : Launch) (dC : Nat → ClassId) (dI : Nat → Nat → Nat) (cI cJ cS : ClassId) (b0 h3 hk hw hs hrs hpr hpd : Nat) (n h rg sp dr kn nx : Nat) (kf wf sf : Nat → Int32) (Kd Wd Sh Rr Pr Pd : Nat → Nat) (r : Nat) (ok : wOk n Kd Wd) (fs : isA n sf Sh) (hS : ∀ j, j < n → Sh j < sp) (hsp : sp ≤ 47045881) (hsp0 : 0 < sp) (hR : rOk n Wd Rr) (hr4 : r < 4) (hrg : rg < 2 ^ 31) : Met l yX0_isLegal wsX0_isLegal ({ frames := 2, cells := 0, slots := 0, locals := 45 }) (va_Pc [.ref b0, .int (nI r)] (rB (dC, dI) vwCl [(b0, .inr (0, [.ref h3, .ref hrs, .int (nI dr), .int (nI kn), .int (nI nx), .ref hpr, .ref hpd])), (h3, .inr (3, [.int (nI n), .int (nI h), .int (nI rg), .int (nI sp), .ref hk, .ref hw, .ref hs])), (hk, .inl (cI, 6, .inl kf)), (hw, .inl (cI, 6, .inl wf)), (hs, .inl (cI, 6, .inl sf)), (hrs, .inl (cI, 24, .inl (nA Rr))), (hpr, .inl (cI, 192, .inl (nA Pr))), (hpd, .inl (cI, 8, .inl (nA Pd)))] (tyz cI cJ cS))) (QcRead (bi (decide (vR Sh Rr sp n r < rg)))) 0 0 (fun _ => False) := by
  refine Met.ofW (cc := cX0_isLegal) (maxL := 2) (ret := (some .boolean)) (by decide) rfl ?_
  intro p e s m args below meth c s₁ B hml hv
  obtain ⟨rfl, hP, hKK⟩ := hv
  have hK := hKK.1
  have hx := B.exec
  have hb := B.bytes
  have hr := B.returns
  have hts := atoms_spec (ws := wsX0_isLegal) B.pre
  have hown : s.vm.findClass RX0 = some m.cls := findClass_of_methodNamed B.named
  have hlocks := B.notSynchronized
  have hiX0 : ∀ w ∈ wsX00, w ∈ wsX0_isLegal := by decide +kernel
  have hiX3 : ∀ w ∈ wsX30, w ∈ wsX0_isLegal := by decide +kernel
  have hl := lv_entry ([.ref b0, .int (nI r)]) (n := 2) (Nat.le_of_ble_eq_true rfl)
  rw [lg_entry_eq]
  generalize (lg_sl ([.ref b0, .int (nI r)]) ++ List.replicate (2 - (lg_sl ([.ref b0, .int (nI r)])).length) Slot.unset).toArray = ls at hl ⊢
  have hl : lv_has ls 2 [(0, .ref b0), (1, .int (nI r))] := hl
  refine lv_aload_n hx hb dX0_isLegal_0 rfl (lv_at hl 0 rfl) ?_
  refine lv_iload_n hx hb dX0_isLegal_1 rfl (lv_at hl 1 rfl) ?_
  refine rr_callR (va_runV (As := [.int (nI r)]) (rest := []) ⟨hx, hb, hml, hown, hts⟩ (c_X0_value l dC dI cI cJ cS b0 h3 hk hw hs hrs hpr hpd n h rg sp dr kn nx kf wf sf Kd Wd Sh Rr Pr Pd r (by first | assumption | omega) (by first | assumption | omega) (by first | assumption | omega) (by first | assumption | omega) (by first | assumption | omega) (by first | assumption | omega) (by first | assumption | omega)) (cwV 1 hts gX0_isLegal_X0_value rfl rfl rfl (by decide +kernel) ⟨Nat.le_of_ble_eq_true rfl, Nat.le_of_ble_eq_true rfl⟩) (rr_preV hKK hP rfl rfl) rfl rfl hl.1 rfl (lv_room (Nat.le_of_ble_eq_true rfl)) dX0_isLegal_2 ⟨Nat.zero_le _, Nat.zero_le _⟩) ?_
  have hq4 : vR Sh Rr sp n r < sp := vS_lt (S := Sh) (r := fun k => Rr (r * 6 + k)) hsp0 n
  refine lv_aload_n hx hb dX0_isLegal_5 rfl (lv_at hl 0 rfl) ?_
  refine va_get (D := (dC, dI)) (ci := 0) (v := .ref h3) (C := RX0) (T := TX0) (N := 7) hx hb hts hiX0 hown hK hP 0 rfl rfl 0 (by decide) (hts (.fieldLink RX0 12 "RestRegisters$Bank" "wheels" "LRestRegisters$Wheels;") (by decide +kernel)) (fun _ h9 => h9) rfl dX0_isLegal_6 ?_
  refine va_get (D := (dC, dI)) (ci := 3) (v := .int (nI rg)) (C := RX3) (T := TX3) (N := 7) hx hb hts hiX3 hown hK hP 1 rfl rfl 2 (by decide) (hts (.fieldLink RX0 70 "RestRegisters$Wheels" "range" "I") (by decide +kernel)) (fun _ h9 => h9) rfl dX0_isLegal_9 ?_
  refine rn_icmp_ge (tgt := 19) hx hb dX0_isLegal_12 (by decide) (by omega) (by omega) (fun c12 => ?_) (fun c12 => ?_)
  · skip
    refine lv_iconst (v := (nI 0)) hx hb dX0_isLegal_19 (by decide) ?_
    refine rr_top (y := bi false) rfl ?_
    exact rr_zret hx hb hr hlocks dX0_isLegal_20 (by first | (rw [decide_eq_true c12]; done) | (rw [decide_eq_false (Nat.not_lt.mpr c12)]))
  refine lv_iconst (v := (nI 1)) hx hb dX0_isLegal_15 (by decide) ?_
  refine lv_goto (tgt := 20) hx hb dX0_isLegal_16 (by decide) ?_
  refine rr_top (y := bi true) rfl ?_
  exact rr_zret hx hb hr hlocks dX0_isLegal_20 (by first | (rw [decide_eq_true c12]; done) | (rw [decide_eq_false (Nat.not_lt.mpr c12)]))
set_option maxHeartbeats 4000000 in
set_option maxRecDepth 100000 in
theorem c_X0_legalOnes (l : Launch) (dC : Nat → ClassId) (dI : Nat → Nat → Nat) (cI cJ cS : ClassId) (b0 h3 hk hw hs hrs hpr hpd : Nat) (n h rg sp dr kn nx : Nat) (kf wf sf : Nat → Int32) (Kd Wd Sh Rr Pr Pd : Nat → Nat) (ok : wOk n Kd Wd) (fs : isA n sf Sh) (hS : ∀ j, j < n → Sh j < sp) (hsp : sp ≤ 47045881) (hsp0 : 0 < sp) (hR : rOk n Wd Rr) (hrg : rg < 2 ^ 31) : Met l yX0_legalOnes wsX0_legalOnes ({ frames := 3, cells := 0, slots := 0, locals := 66 }) (va_Pc [.ref b0] (rB (dC, dI) vwCl [(b0, .inr (0, [.ref h3, .ref hrs, .int (nI dr), .int (nI kn), .int (nI nx), .ref hpr, .ref hpd])), (h3, .inr (3, [.int (nI n), .int (nI h), .int (nI rg), .int (nI sp), .ref hk, .ref hw, .ref hs])), (hk, .inl (cI, 6, .inl kf)), (hw, .inl (cI, 6, .inl wf)), (hs, .inl (cI, 6, .inl sf)), (hrs, .inl (cI, 24, .inl (nA Rr))), (hpr, .inl (cI, 192, .inl (nA Pr))), (hpd, .inl (cI, 8, .inl (nA Pd)))] (tyz cI cJ cS))) (QcRead (nI (orS (fun r => decide (vR Sh Rr sp n r < rg)) 4))) 0 0 (fun _ => False) := by
  refine Met.ofW (cc := cX0_legalOnes) (maxL := 3) (ret := (some .int)) (by decide) rfl ?_
  intro p e s m args below meth c s₁ B hml hv
  obtain ⟨rfl, hP, hKK⟩ := hv
  have hK := hKK.1
  have hx := B.exec
  have hb := B.bytes
  have hr := B.returns
  have hts := atoms_spec (ws := wsX0_legalOnes) B.pre
  have hown : s.vm.findClass RX0 = some m.cls := findClass_of_methodNamed B.named
  have hlocks := B.notSynchronized
  have hl := lv_entry ([.ref b0]) (n := 3) (Nat.le_of_ble_eq_true rfl)
  rw [lg_entry_eq]
  generalize (lg_sl ([.ref b0]) ++ List.replicate (3 - (lg_sl ([.ref b0])).length) Slot.unset).toArray = ls at hl ⊢
  have hl : lv_has ls 3 [(0, .ref b0)] := hl
  refine lv_iconst (v := (nI 0)) hx hb dX0_legalOnes_0 (by decide) ?_
  refine lv_istore_n (lv' := [(1, .int (nI 0)), (0, .ref b0)]) hx hb dX0_legalOnes_1 rfl hl (by decide) rfl (fun ls hl => ?_)
  refine lv_iconst (v := (nI 0)) hx hb dX0_legalOnes_2 (by decide) ?_
  refine lv_istore_n (lv' := [(2, .int (nI 0)), (1, .int (nI 0)), (0, .ref b0)]) hx hb dX0_legalOnes_3 rfl hl (by decide) rfl (fun ls hl => ?_)
  refine rl1 (A1 := Nat) (fun ls => W p l e _ s m _ below meth c s.heap [] 0 0 _ (F0 m 4 ls [])) (fun r ls => r ≤ 4 ∧ lv_has ls 3 [(2, .int (nI r)), (1, .int (nI (orS (fun r => decide (vR Sh Rr sp n r < rg)) r))), (0, .ref b0)]) (fun r => 4 - r) ?_ 0 ls ⟨by omega, lv_sub hl [0, 1, 2] rfl⟩
  rintro r ls ⟨hi, hl⟩ ih4
  refine lv_iload_n hx hb dX0_legalOnes_4 rfl (lv_at hl 0 rfl) ?_
  refine lv_iconst (v := (nI 4)) hx hb dX0_legalOnes_5 (by decide) ?_
  refine rn_icmp_ge (tgt := 33) hx hb dX0_legalOnes_6 (by decide) (by omega) (by omega) (fun c6 => ?_) (fun c6 => ?_)
  · skip
    refine lv_iload_n hx hb dX0_legalOnes_33 rfl (lv_at hl 1 rfl) ?_
    exact rr_iret hx hb hr hlocks dX0_legalOnes_34 (by rw [Nat.le_antisymm hi c6])
  refine lv_iload_n hx hb dX0_legalOnes_9 rfl (lv_at hl 1 rfl) ?_
  refine lv_aload_n hx hb dX0_legalOnes_10 rfl (lv_at hl 2 rfl) ?_
  refine lv_iload_n hx hb dX0_legalOnes_11 rfl (lv_at hl 0 rfl) ?_
  refine rr_callR (va_runV (As := [.int (nI r)]) (rest := [.int (nI (orS (fun r => decide (vR Sh Rr sp n r < rg)) r))]) ⟨hx, hb, hml, hown, hts⟩ (c_X0_isLegal l dC dI cI cJ cS b0 h3 hk hw hs hrs hpr hpd n h rg sp dr kn nx kf wf sf Kd Wd Sh Rr Pr Pd r (by first | assumption | omega) (by first | assumption | omega) (by first | assumption | omega) (by first | assumption | omega) (by first | assumption | omega) (by first | assumption | omega) (by first | assumption | omega) (by first | assumption | omega)) (cwV 1 hts gX0_legalOnes_X0_isLegal rfl rfl rfl (by decide +kernel) ⟨Nat.le_of_ble_eq_true rfl, Nat.le_of_ble_eq_true rfl⟩) (rr_preV hKK hP rfl rfl) rfl rfl hl.1 rfl (lv_room (Nat.le_of_ble_eq_true rfl)) dX0_legalOnes_12 ⟨Nat.zero_le _, Nat.zero_le _⟩) ?_
  refine rb_if_eq (tgt := 24) hx hb dX0_legalOnes_15 (by decide) (fun c15 => ?_) (fun c15 => ?_)
  · skip
    refine lv_iconst (v := (nI 0)) hx hb dX0_legalOnes_24 (by decide) ?_
    refine lv_ior hx hb dX0_legalOnes_25 ?_
    refine rr_top (y := (nI (orS (fun r => decide (vR Sh Rr sp n r < rg)) (r + 1)))) (by rw [or_eq, orS, c15]; rfl) ?_
    refine lv_istore_n (lv' := [(1, .int (nI (orS (fun r => decide (vR Sh Rr sp n r < rg)) (r + 1)))), (2, .int (nI r)), (0, .ref b0)]) hx hb dX0_legalOnes_26 rfl hl (by decide) rfl (fun ls hl => ?_)
    refine lv_iinc (v := (nI (r + 1))) (lv' := [(2, .int (nI (r + 1))), (1, .int (nI (orS (fun r => decide (vR Sh Rr sp n r < rg)) (r + 1)))), (0, .ref b0)]) hx hb dX0_legalOnes_27 hl (k := 1) rfl (rn_inc r 1) (by decide) rfl (fun ls hl => ?_)
    refine lv_goto (tgt := 4) hx hb dX0_legalOnes_30 (by decide) ?_
    exact ih4 (r + 1) ls ⟨by omega, lv_sub hl [0, 1, 2] rfl⟩ (by omega)
  refine lv_iconst (v := (nI 1)) hx hb dX0_legalOnes_18 (by decide) ?_
  refine lv_iload_n hx hb dX0_legalOnes_19 rfl (lv_at hl 0 rfl) ?_
  refine lv_ishl hx hb dX0_legalOnes_20 ?_
  refine lv_goto (tgt := 25) hx hb dX0_legalOnes_21 (by decide) ?_
  refine rr_top (y := nI (2 ^ r)) (shl_eq (by omega)) ?_
  refine lv_ior hx hb dX0_legalOnes_25 ?_
  refine rr_top (y := (nI (orS (fun r => decide (vR Sh Rr sp n r < rg)) (r + 1)))) (by rw [or_eq, orS, c15]; rfl) ?_
  refine lv_istore_n (lv' := [(1, .int (nI (orS (fun r => decide (vR Sh Rr sp n r < rg)) (r + 1)))), (2, .int (nI r)), (0, .ref b0)]) hx hb dX0_legalOnes_26 rfl hl (by decide) rfl (fun ls hl => ?_)
  refine lv_iinc (v := (nI (r + 1))) (lv' := [(2, .int (nI (r + 1))), (1, .int (nI (orS (fun r => decide (vR Sh Rr sp n r < rg)) (r + 1)))), (0, .ref b0)]) hx hb dX0_legalOnes_27 hl (k := 1) rfl (rn_inc r 1) (by decide) rfl (fun ls hl => ?_)
  refine lv_goto (tgt := 4) hx hb dX0_legalOnes_30 (by decide) ?_
  exact ih4 (r + 1) ls ⟨by omega, lv_sub hl [0, 1, 2] rfl⟩ (by omega)
set_option maxHeartbeats 4000000 in
set_option maxRecDepth 100000 in
theorem c_X0_wrongOnes (l : Launch) (dC : Nat → ClassId) (dI : Nat → Nat → Nat) (cI cJ cS : ClassId) (b0 h3 hk hw hs hrs hpr hpd : Nat) (n h rg sp dr kn nx : Nat) (kf wf sf : Nat → Int32) (Kd Wd Sh Rr Pr Pd : Nat → Nat) (r o : Nat) (ok : wOk n Kd Wd) (fk : isA n kf Kd) (fw : isA n wf Wd) (hR : rOk n Wd Rr) (hr4 : r < 4) (ho4 : o < 4) : Met l yX0_wrongOnes wsX0_wrongOnes ({ frames := 5, cells := 0, slots := 0, locals := 115 }) (va_Pc [.ref b0, .int (nI r), .int (nI o)] (rB (dC, dI) vwCl [(b0, .inr (0, [.ref h3, .ref hrs, .int (nI dr), .int (nI kn), .int (nI nx), .ref hpr, .ref hpd])), (h3, .inr (3, [.int (nI n), .int (nI h), .int (nI rg), .int (nI sp), .ref hk, .ref hw, .ref hs])), (hk, .inl (cI, 6, .inl kf)), (hw, .inl (cI, 6, .inl wf)), (hs, .inl (cI, 6, .inl sf)), (hrs, .inl (cI, 24, .inl (nA Rr))), (hpr, .inl (cI, 192, .inl (nA Pr))), (hpd, .inl (cI, 8, .inl (nA Pd)))] (tyz cI cJ cS))) (QcRead (nI (orS (fun k => wrongB (Kd k) (Wd k) (Rr (r * 6 + k)) (Rr (o * 6 + k))) n))) 0 0 (fun _ => False) := by
  refine Met.ofW (cc := cX0_wrongOnes) (maxL := 5) (ret := (some .int)) (by decide) rfl ?_
  intro p e s m args below meth c s₁ B hml hv
  obtain ⟨rfl, hP, hKK⟩ := hv
  have hK := hKK.1
  have hx := B.exec
  have hb := B.bytes
  have hr := B.returns
  have hts := atoms_spec (ws := wsX0_wrongOnes) B.pre
  have hown : s.vm.findClass RX0 = some m.cls := findClass_of_methodNamed B.named
  have hlocks := B.notSynchronized
  have hiX0 : ∀ w ∈ wsX00, w ∈ wsX0_wrongOnes := by decide +kernel
  have hiX3 : ∀ w ∈ wsX30, w ∈ wsX0_wrongOnes := by decide +kernel
  have hl := lv_entry ([.ref b0, .int (nI r), .int (nI o)]) (n := 5) (Nat.le_of_ble_eq_true rfl)
  rw [lg_entry_eq]
  generalize (lg_sl ([.ref b0, .int (nI r), .int (nI o)]) ++ List.replicate (5 - (lg_sl ([.ref b0, .int (nI r), .int (nI o)])).length) Slot.unset).toArray = ls at hl ⊢
  have hl : lv_has ls 5 [(0, .ref b0), (1, .int (nI r)), (2, .int (nI o))] := hl
  have hn6 := ok.1
  refine lv_iconst (v := (nI 0)) hx hb dX0_wrongOnes_0 (by decide) ?_
  refine lv_istore_n (lv' := [(3, .int (nI 0)), (0, .ref b0), (1, .int (nI r)), (2, .int (nI o))]) hx hb dX0_wrongOnes_1 rfl hl (by decide) rfl (fun ls hl => ?_)
  refine lv_iconst (v := (nI 0)) hx hb dX0_wrongOnes_2 (by decide) ?_
  refine lv_istore (lv' := [(4, .int (nI 0)), (3, .int (nI 0)), (0, .ref b0), (1, .int (nI r)), (2, .int (nI o))]) hx hb dX0_wrongOnes_3 hl (by decide) rfl (fun ls hl => ?_)
  refine rl1 (A1 := Nat) (fun ls => W p l e _ s m _ below meth c s.heap [] 0 0 _ (F0 m 5 ls [])) (fun k ls => k ≤ n ∧ lv_has ls 5 [(4, .int (nI k)), (3, .int (nI (orS (fun k => wrongB (Kd k) (Wd k) (Rr (r * 6 + k)) (Rr (o * 6 + k))) k))), (0, .ref b0), (1, .int (nI r)), (2, .int (nI o))]) (fun k => n - k) ?_ 0 ls ⟨by omega, lv_sub hl [0, 1, 2, 3, 4] rfl⟩
  rintro k ls ⟨hi, hl⟩ ih5
  refine lv_iload hx hb dX0_wrongOnes_5 (lv_at hl 0 rfl) ?_
  refine lv_aload_n hx hb dX0_wrongOnes_7 rfl (lv_at hl 2 rfl) ?_
  refine va_get (D := (dC, dI)) (ci := 0) (v := .ref h3) (C := RX0) (T := TX0) (N := 7) hx hb hts hiX0 hown hK hP 0 rfl rfl 0 (by decide) (hts (.fieldLink RX0 12 "RestRegisters$Bank" "wheels" "LRestRegisters$Wheels;") (by decide +kernel)) (fun _ h9 => h9) rfl dX0_wrongOnes_8 ?_
  refine va_get (D := (dC, dI)) (ci := 3) (v := .int (nI n)) (C := RX3) (T := TX3) (N := 7) hx hb hts hiX3 hown hK hP 1 rfl rfl 0 (by decide) (hts (.fieldLink RX0 54 "RestRegisters$Wheels" "size" "I") (by decide +kernel)) (fun _ h9 => h9) rfl dX0_wrongOnes_11 ?_
  refine rn_icmp_ge (tgt := 60) hx hb dX0_wrongOnes_14 (by decide) (by omega) (by omega) (fun c14 => ?_) (fun c14 => ?_)
  · skip
    refine lv_iload_n hx hb dX0_wrongOnes_60 rfl (lv_at hl 1 rfl) ?_
    exact rr_iret hx hb hr hlocks dX0_wrongOnes_61 (by rw [Nat.le_antisymm hi c14])
  refine lv_iload_n hx hb dX0_wrongOnes_17 rfl (lv_at hl 1 rfl) ?_
  refine lv_aload_n hx hb dX0_wrongOnes_18 rfl (lv_at hl 2 rfl) ?_
  refine va_get (D := (dC, dI)) (ci := 0) (v := .ref h3) (C := RX0) (T := TX0) (N := 7) hx hb hts hiX0 hown hK hP 0 rfl rfl 0 (by decide) (hts (.fieldLink RX0 12 "RestRegisters$Bank" "wheels" "LRestRegisters$Wheels;") (by decide +kernel)) (fun _ h9 => h9) rfl dX0_wrongOnes_19 ?_
  refine lv_iload hx hb dX0_wrongOnes_22 (lv_at hl 0 rfl) ?_
  refine lv_aload_n hx hb dX0_wrongOnes_24 rfl (lv_at hl 2 rfl) ?_
  refine lv_iload_n hx hb dX0_wrongOnes_25 rfl (lv_at hl 3 rfl) ?_
  refine lv_iload hx hb dX0_wrongOnes_26 (lv_at hl 0 rfl) ?_
  refine rr_callR (va_runV (As := [.int (nI r), .int (nI k)]) (rest := [.int (nI k), .ref h3, .int (nI (orS (fun k => wrongB (Kd k) (Wd k) (Rr (r * 6 + k)) (Rr (o * 6 + k))) k))]) ⟨hx, hb, hml, hown, hts⟩ (c_X0_shown l dC dI cI cJ cS b0 h3 hrs hpr hpd dr kn nx Rr r k (by first | assumption | omega) (by first | assumption | omega)) (cwV 2 hts gX0_wrongOnes_X0_shown rfl rfl rfl (by decide +kernel) ⟨Nat.le_of_ble_eq_true rfl, Nat.le_of_ble_eq_true rfl⟩) (rr_preV hKK (hP.sub [0, 5] rfl) rfl rfl) rfl rfl hl.1 rfl (lv_room (Nat.le_of_ble_eq_true rfl)) dX0_wrongOnes_28 ⟨Nat.zero_le _, Nat.zero_le _⟩) ?_
  refine lv_aload_n hx hb dX0_wrongOnes_31 rfl (lv_at hl 2 rfl) ?_
  refine lv_iload_n hx hb dX0_wrongOnes_32 rfl (lv_at hl 4 rfl) ?_
  refine lv_iload hx hb dX0_wrongOnes_33 (lv_at hl 0 rfl) ?_
  refine rr_callR (va_runV (As := [.int (nI o), .int (nI k)]) (rest := [.int (nI (Rr (r * 6 + k))), .int (nI k), .ref h3, .int (nI (orS (fun k => wrongB (Kd k) (Wd k) (Rr (r * 6 + k)) (Rr (o * 6 + k))) k))]) ⟨hx, hb, hml, hown, hts⟩ (c_X0_shown l dC dI cI cJ cS b0 h3 hrs hpr hpd dr kn nx Rr o k (by first | assumption | omega) (by first | assumption | omega)) (cwV 2 hts gX0_wrongOnes_X0_shown rfl rfl rfl (by decide +kernel) ⟨Nat.le_of_ble_eq_true rfl, Nat.le_of_ble_eq_true rfl⟩) (rr_preV hKK (hP.sub [0, 5] rfl) rfl rfl) rfl rfl hl.1 rfl (lv_room (Nat.le_of_ble_eq_true rfl)) dX0_wrongOnes_35 ⟨Nat.zero_le _, Nat.zero_le _⟩) ?_
  refine rr_callR (va_runV (As := [.int (nI k), .int (nI (Rr (r * 6 + k))), .int (nI (Rr (o * 6 + k)))]) (rest := [.int (nI (orS (fun k => wrongB (Kd k) (Wd k) (Rr (r * 6 + k)) (Rr (o * 6 + k))) k))]) ⟨hx, hb, hml, hown, hts⟩ (c_X3_isWrong l dC dI cI cJ cS h3 hk hw hs n h rg sp kf wf sf Kd Wd Sh k (Rr (r * 6 + k)) (Rr (o * 6 + k)) (by first | assumption | omega) (by first | assumption | omega) (by first | assumption | omega) (by first | assumption | omega) (hR r k hr4 (by omega)) (hR o k ho4 (by omega))) (cwV 3 hts gX0_wrongOnes_X3_isWrong rfl rfl rfl (by decide +kernel) ⟨Nat.le_of_ble_eq_true rfl, Nat.le_of_ble_eq_true rfl⟩) (rr_preV hKK (hP.sub [1, 2, 3, 4] rfl) rfl rfl) rfl rfl hl.1 rfl (lv_room (Nat.le_of_ble_eq_true rfl)) dX0_wrongOnes_38 ⟨Nat.zero_le _, Nat.zero_le _⟩) ?_
  refine rb_if_eq (tgt := 51) hx hb dX0_wrongOnes_41 (by decide) (fun c41 => ?_) (fun c41 => ?_)
  · skip
    refine lv_iconst (v := (nI 0)) hx hb dX0_wrongOnes_51 (by decide) ?_
    refine lv_ior hx hb dX0_wrongOnes_52 ?_
    refine rr_top (y := (nI (orS (fun k => wrongB (Kd k) (Wd k) (Rr (r * 6 + k)) (Rr (o * 6 + k))) (k + 1)))) (by rw [or_eq, orS, c41]; rfl) ?_
    refine lv_istore_n (lv' := [(3, .int (nI (orS (fun k => wrongB (Kd k) (Wd k) (Rr (r * 6 + k)) (Rr (o * 6 + k))) (k + 1)))), (4, .int (nI k)), (0, .ref b0), (1, .int (nI r)), (2, .int (nI o))]) hx hb dX0_wrongOnes_53 rfl hl (by decide) rfl (fun ls hl => ?_)
    refine lv_iinc (v := (nI (k + 1))) (lv' := [(4, .int (nI (k + 1))), (3, .int (nI (orS (fun k => wrongB (Kd k) (Wd k) (Rr (r * 6 + k)) (Rr (o * 6 + k))) (k + 1)))), (0, .ref b0), (1, .int (nI r)), (2, .int (nI o))]) hx hb dX0_wrongOnes_54 hl (k := 1) rfl (rn_inc k 1) (by decide) rfl (fun ls hl => ?_)
    refine lv_goto (tgt := 5) hx hb dX0_wrongOnes_57 (by decide) ?_
    exact ih5 (k + 1) ls ⟨by omega, lv_sub hl [0, 1, 2, 3, 4] rfl⟩ (by omega)
  refine lv_iconst (v := (nI 1)) hx hb dX0_wrongOnes_44 (by decide) ?_
  refine lv_iload hx hb dX0_wrongOnes_45 (lv_at hl 0 rfl) ?_
  refine lv_ishl hx hb dX0_wrongOnes_47 ?_
  refine lv_goto (tgt := 52) hx hb dX0_wrongOnes_48 (by decide) ?_
  refine rr_top (y := nI (2 ^ k)) (shl_eq (by omega)) ?_
  refine lv_ior hx hb dX0_wrongOnes_52 ?_
  refine rr_top (y := (nI (orS (fun k => wrongB (Kd k) (Wd k) (Rr (r * 6 + k)) (Rr (o * 6 + k))) (k + 1)))) (by rw [or_eq, orS, c41]; rfl) ?_
  refine lv_istore_n (lv' := [(3, .int (nI (orS (fun k => wrongB (Kd k) (Wd k) (Rr (r * 6 + k)) (Rr (o * 6 + k))) (k + 1)))), (4, .int (nI k)), (0, .ref b0), (1, .int (nI r)), (2, .int (nI o))]) hx hb dX0_wrongOnes_53 rfl hl (by decide) rfl (fun ls hl => ?_)
  refine lv_iinc (v := (nI (k + 1))) (lv' := [(4, .int (nI (k + 1))), (3, .int (nI (orS (fun k => wrongB (Kd k) (Wd k) (Rr (r * 6 + k)) (Rr (o * 6 + k))) (k + 1)))), (0, .ref b0), (1, .int (nI r)), (2, .int (nI o))]) hx hb dX0_wrongOnes_54 hl (k := 1) rfl (rn_inc k 1) (by decide) rfl (fun ls hl => ?_)
  refine lv_goto (tgt := 5) hx hb dX0_wrongOnes_57 (by decide) ?_
  exact ih5 (k + 1) ls ⟨by omega, lv_sub hl [0, 1, 2, 3, 4] rfl⟩ (by omega)
set_option maxHeartbeats 4000000 in
set_option maxRecDepth 100000 in
theorem c_X0_put (l : Launch) (dC : Nat → ClassId) (dI : Nat → Nat → Nat) (cI cJ cS : ClassId) (sz : Nat) (b0 h3 hk hw hs hrs hpr hpd : Nat) (n h rg sp dr kn nx : Nat) (kf wf sf : Nat → Int32) (Kd Wd Sh Rr Pr Pd : Nat → Nat) (r v : Nat) (ok : wOk n Kd Wd) (fw : isA n wf Wd) (hr4 : r < 4) (hv2 : v < 2 ^ 31) : Met l yX0_put wsX0_put ({ frames := 1, cells := 0, slots := 0, locals := 23 }) (va_Pc [.ref b0, .int (nI r), .int (nI v)] (rW (dC, dI) vwCl [(b0, .inr (0, [.ref h3, .ref hrs, .int (nI dr), .int (nI kn), .int (nI nx), .ref hpr, .ref hpd])), (h3, .inr (3, [.int (nI n), .int (nI h), .int (nI rg), .int (nI sp), .ref hk, .ref hw, .ref hs])), (hk, .inl (cI, 6, .inl kf)), (hw, .inl (cI, 6, .inl wf)), (hs, .inl (cI, 6, .inl sf)), (hrs, .inl (cI, 24, .inl (nA Rr))), (hpr, .inl (cI, 192, .inl (nA Pr))), (hpd, .inl (cI, 8, .inl (nA Pd)))] (tyz cI cJ cS) sz)) (qV (dC, dI) vwCl [(b0, .inr (0, [.ref h3, .ref hrs, .int (nI dr), .int (nI kn), .int (nI nx), .ref hpr, .ref hpd])), (h3, .inr (3, [.int (nI n), .int (nI h), .int (nI rg), .int (nI sp), .ref hk, .ref hw, .ref hs])), (hk, .inl (cI, 6, .inl kf)), (hw, .inl (cI, 6, .inl wf)), (hs, .inl (cI, 6, .inl sf)), (hrs, .inl (cI, 24, .inl (nA (rwN r (fun k => v % Wd k) n Rr)))), (hpr, .inl (cI, 192, .inl (nA Pr))), (hpd, .inl (cI, 8, .inl (nA Pd)))] (va_A [(b0, .inr (0, [.ref h3, .ref hrs, .int (nI dr), .int (nI kn), .int (nI nx), .ref hpr, .ref hpd])), (h3, .inr (3, [.int (nI n), .int (nI h), .int (nI rg), .int (nI sp), .ref hk, .ref hw, .ref hs])), (hk, .inl (cI, 6, .inl kf)), (hw, .inl (cI, 6, .inl wf)), (hs, .inl (cI, 6, .inl sf)), (hrs, .inl (cI, 24, .inl (nA Rr))), (hpr, .inl (cI, 192, .inl (nA Pr))), (hpd, .inl (cI, 8, .inl (nA Pd)))] sz)) 0 0 (va_A [(b0, .inr (0, [.ref h3, .ref hrs, .int (nI dr), .int (nI kn), .int (nI nx), .ref hpr, .ref hpd])), (h3, .inr (3, [.int (nI n), .int (nI h), .int (nI rg), .int (nI sp), .ref hk, .ref hw, .ref hs])), (hk, .inl (cI, 6, .inl kf)), (hw, .inl (cI, 6, .inl wf)), (hs, .inl (cI, 6, .inl sf)), (hrs, .inl (cI, 24, .inl (nA Rr))), (hpr, .inl (cI, 192, .inl (nA Pr))), (hpd, .inl (cI, 8, .inl (nA Pd)))] sz) := by
  refine Met.ofW (cc := cX0_put) (maxL := 4) (ret := none) (by decide) rfl ?_
  intro p e s m args below meth c s₁ B hml hv
  obtain ⟨rfl, hsz, hP, hKK, hD0⟩ := hv
  have hK := hKK.1
  have hx := B.exec
  have hb := B.bytes
  have hr := B.returns
  have hts := atoms_spec (ws := wsX0_put) B.pre
  have hown : s.vm.findClass RX0 = some m.cls := findClass_of_methodNamed B.named
  have hlocks := B.notSynchronized
  subst hsz
  have hD := hD0.self (sz := s.heap.size)
  generalize hAe : va_A [(b0, .inr (0, [.ref h3, .ref hrs, .int (nI dr), .int (nI kn), .int (nI nx), .ref hpr, .ref hpd])), (h3, .inr (3, [.int (nI n), .int (nI h), .int (nI rg), .int (nI sp), .ref hk, .ref hw, .ref hs])), (hk, .inl (cI, 6, .inl kf)), (hw, .inl (cI, 6, .inl wf)), (hs, .inl (cI, 6, .inl sf)), (hrs, .inl (cI, 24, .inl (nA Rr))), (hpr, .inl (cI, 192, .inl (nA Pr))), (hpd, .inl (cI, 8, .inl (nA Pd)))] s.heap.size = A at hD ⊢
  have hA : ∀ q : Nat, s.heap.size ≤ q → A q := fun q h => by rw [← hAe]; exact Or.inr h
  have hS : va_S A s.heap s.heap [] := va_S.rf
  have hP : va_P (dC, dI) vwCl [(b0, .inr (0, [.ref h3, .ref hrs, .int (nI dr), .int (nI kn), .int (nI nx), .ref hpr, .ref hpd])), (h3, .inr (3, [.int (nI n), .int (nI h), .int (nI rg), .int (nI sp), .ref hk, .ref hw, .ref hs])), (hk, .inl (cI, 6, .inl kf)), (hw, .inl (cI, 6, .inl wf)), (hs, .inl (cI, 6, .inl sf)), (hrs, .inl (cI, 24, .inl (nA Rr))), (hpr, .inl (cI, 192, .inl (nA Pr))), (hpd, .inl (cI, 8, .inl (nA Pd)))] s.heap := hP
  have hiX0 : ∀ w ∈ wsX00, w ∈ wsX0_put := by decide +kernel
  have hiX3 : ∀ w ∈ wsX30, w ∈ wsX0_put := by decide +kernel
  have hl := lv_entry ([.ref b0, .int (nI r), .int (nI v)]) (n := 4) (Nat.le_of_ble_eq_true rfl)
  rw [lg_entry_eq]
  generalize (lg_sl ([.ref b0, .int (nI r), .int (nI v)]) ++ List.replicate (4 - (lg_sl ([.ref b0, .int (nI r), .int (nI v)])).length) Slot.unset).toArray = ls at hl ⊢
  have hl : lv_has ls 4 [(0, .ref b0), (1, .int (nI r)), (2, .int (nI v))] := hl
  have hn6 := ok.1
  refine lv_iconst (v := (nI 0)) hx hb dX0_put_0 (by decide) ?_
  refine lv_istore_n (lv' := [(3, .int (nI 0)), (0, .ref b0), (1, .int (nI r)), (2, .int (nI v))]) hx hb dX0_put_1 rfl hl (by decide) rfl (fun ls hl => ?_)
  have ec : nA Rr = nA (rwN r (fun k => v % Wd k) 0 Rr) := rwN_0 _ _ _
  rw [ec] at hP hD
  have hP : va_P (dC, dI) vwCl [(b0, .inr (0, [.ref h3, .ref hrs, .int (nI dr), .int (nI kn), .int (nI nx), .ref hpr, .ref hpd])), (h3, .inr (3, [.int (nI n), .int (nI h), .int (nI rg), .int (nI sp), .ref hk, .ref hw, .ref hs])), (hk, .inl (cI, 6, .inl kf)), (hw, .inl (cI, 6, .inl wf)), (hs, .inl (cI, 6, .inl sf)), (hrs, .inl (cI, 24, .inl (nA (rwN r (fun k => v % Wd k) 0 Rr)))), (hpr, .inl (cI, 192, .inl (nA Pr))), (hpd, .inl (cI, 8, .inl (nA Pd)))] s.heap := hP
  have hD : va_D A [(b0, .inr (0, [.ref h3, .ref hrs, .int (nI dr), .int (nI kn), .int (nI nx), .ref hpr, .ref hpd])), (h3, .inr (3, [.int (nI n), .int (nI h), .int (nI rg), .int (nI sp), .ref hk, .ref hw, .ref hs])), (hk, .inl (cI, 6, .inl kf)), (hw, .inl (cI, 6, .inl wf)), (hs, .inl (cI, 6, .inl sf)), (hrs, .inl (cI, 24, .inl (nA (rwN r (fun k => v % Wd k) 0 Rr)))), (hpr, .inl (cI, 192, .inl (nA Pr))), (hpd, .inl (cI, 8, .inl (nA Pd)))] := hD
  refine rlW1 (A1 := Nat) (fun H locs ls => W p l e _ s m _ below meth c H locs 0 0 _ (F0 m 2 ls [])) (fun k H locs ls => k ≤ n ∧ va_P (dC, dI) vwCl [(b0, .inr (0, [.ref h3, .ref hrs, .int (nI dr), .int (nI kn), .int (nI nx), .ref hpr, .ref hpd])), (h3, .inr (3, [.int (nI n), .int (nI h), .int (nI rg), .int (nI sp), .ref hk, .ref hw, .ref hs])), (hk, .inl (cI, 6, .inl kf)), (hw, .inl (cI, 6, .inl wf)), (hs, .inl (cI, 6, .inl sf)), (hrs, .inl (cI, 24, .inl (nA (rwN r (fun k => v % Wd k) k Rr)))), (hpr, .inl (cI, 192, .inl (nA Pr))), (hpd, .inl (cI, 8, .inl (nA Pd)))] H ∧ va_D A [(b0, .inr (0, [.ref h3, .ref hrs, .int (nI dr), .int (nI kn), .int (nI nx), .ref hpr, .ref hpd])), (h3, .inr (3, [.int (nI n), .int (nI h), .int (nI rg), .int (nI sp), .ref hk, .ref hw, .ref hs])), (hk, .inl (cI, 6, .inl kf)), (hw, .inl (cI, 6, .inl wf)), (hs, .inl (cI, 6, .inl sf)), (hrs, .inl (cI, 24, .inl (nA (rwN r (fun k => v % Wd k) k Rr)))), (hpr, .inl (cI, 192, .inl (nA Pr))), (hpd, .inl (cI, 8, .inl (nA Pd)))] ∧ va_S A s.heap H locs ∧ lv_has ls 4 [(3, .int (nI k)), (0, .ref b0), (1, .int (nI r)), (2, .int (nI v))]) (fun k => n - k) ?_ 0 _ _ ls ⟨by omega, hP, hD, hS, lv_sub hl [0, 1, 2, 3] rfl⟩
  rintro k H locs ls ⟨hi, hP, hD, hS, hl⟩ ih2
  refine lv_iload_n hx hb dX0_put_2 rfl (lv_at hl 0 rfl) ?_
  refine lv_aload_n hx hb dX0_put_3 rfl (lv_at hl 1 rfl) ?_
  refine va_get (D := (dC, dI)) (ci := 0) (v := .ref h3) (C := RX0) (T := TX0) (N := 7) hx hb hts hiX0 hown hK hP 0 rfl rfl 0 (by decide) (hts (.fieldLink RX0 12 "RestRegisters$Bank" "wheels" "LRestRegisters$Wheels;") (by decide +kernel)) (fun _ h9 => h9) rfl dX0_put_4 ?_
  refine va_get (D := (dC, dI)) (ci := 3) (v := .int (nI n)) (C := RX3) (T := TX3) (N := 7) hx hb hts hiX3 hown hK hP 1 rfl rfl 0 (by decide) (hts (.fieldLink RX0 54 "RestRegisters$Wheels" "size" "I") (by decide +kernel)) (fun _ h9 => h9) rfl dX0_put_7 ?_
  refine rn_icmp_ge (tgt := 36) hx hb dX0_put_10 (by decide) (by omega) (by omega) (fun c10 => ?_) (fun c10 => ?_)
  · skip
    have ek : k = n := Nat.le_antisymm hi c10
    subst ek
    exact rr_vretW hx hb hr hlocks dX0_put_36 hP hD hS
  refine lv_aload_n hx hb dX0_put_13 rfl (lv_at hl 1 rfl) ?_
  refine lv_iload_n hx hb dX0_put_14 rfl (lv_at hl 2 rfl) ?_
  refine lv_iload_n hx hb dX0_put_15 rfl (lv_at hl 0 rfl) ?_
  refine lv_iload_n hx hb dX0_put_16 rfl (lv_at hl 3 rfl) ?_
  refine lv_aload_n hx hb dX0_put_17 rfl (lv_at hl 1 rfl) ?_
  refine va_get (D := (dC, dI)) (ci := 0) (v := .ref h3) (C := RX0) (T := TX0) (N := 7) hx hb hts hiX0 hown hK hP 0 rfl rfl 0 (by decide) (hts (.fieldLink RX0 12 "RestRegisters$Bank" "wheels" "LRestRegisters$Wheels;") (by decide +kernel)) (fun _ h9 => h9) rfl dX0_put_18 ?_
  refine va_get (D := (dC, dI)) (ci := 3) (v := .ref hw) (C := RX3) (T := TX3) (N := 7) hx hb hts hiX3 hown hK hP 1 rfl rfl 5 (by decide) (hts (.fieldLink RX0 81 "RestRegisters$Wheels" "widths" "[I") (by decide +kernel)) (fun _ h9 => h9) rfl dX0_put_21 ?_
  refine lv_iload_n hx hb dX0_put_24 rfl (lv_at hl 0 rfl) ?_
  refine rn_iald hx hb hK hP 3 0 rfl rfl (i := k) (by omega) (by decide) (v := (nI (Wd k))) (fw k (by omega)) dX0_put_25 ?_
  have hv25 := ok.2.2.1 k (by omega)
  have hq3 := ok.2.2.1 k (by omega)
  refine rn_irem hx hb dX0_put_26 (by omega) (by omega) (by omega) ?_
  refine rw_callv (va_runV (As := [.int (nI r), .int (nI k), .int (nI (v % (Wd k)))]) (rest := []) ⟨hx, hb, hml, hown, hts⟩ (c_X0_show l dC dI cI cJ cS _ b0 h3 hrs hpr hpd dr kn nx (rwN r (fun k => v % Wd k) k Rr) r k (v % (Wd k)) (by first | assumption | omega) (by first | assumption | omega)) (cwV 3 hts gX0_put_X0_show rfl rfl rfl (by decide +kernel) ⟨Nat.le_of_ble_eq_true rfl, Nat.le_of_ble_eq_true rfl⟩) (rw_preV hKK (hP.sub [0, 5] rfl) (hD.sub [0, 5] (by decide) rfl) rfl rfl) rfl rfl hl.1 rfl (lv_room (Nat.le_of_ble_eq_true rfl)) dX0_put_27 ⟨Nat.zero_le _, Nat.zero_le _⟩) (wr := [(h3, .inr (3, [.int (nI n), .int (nI h), .int (nI rg), .int (nI sp), .ref hk, .ref hw, .ref hs])), (hk, .inl (cI, 6, .inl kf)), (hw, .inl (cI, 6, .inl wf)), (hs, .inl (cI, 6, .inl sf)), (hpr, .inl (cI, 192, .inl (nA Pr))), (hpd, .inl (cI, 8, .inl (nA Pd)))]) hP hD hS hA [0, 5] [1, 2, 3, 4, 6, 7] rfl rfl (by decide) (by decide) (fun H locs hP hD hS => ?_)
  have hP : va_P (dC, dI) vwCl [(b0, .inr (0, [.ref h3, .ref hrs, .int (nI dr), .int (nI kn), .int (nI nx), .ref hpr, .ref hpd])), (h3, .inr (3, [.int (nI n), .int (nI h), .int (nI rg), .int (nI sp), .ref hk, .ref hw, .ref hs])), (hk, .inl (cI, 6, .inl kf)), (hw, .inl (cI, 6, .inl wf)), (hs, .inl (cI, 6, .inl sf)), (hrs, .inl (cI, 24, .inl (nA (uN (rwN r (fun k => v % Wd k) k Rr) (r * 6 + k) (v % (Wd k)))))), (hpr, .inl (cI, 192, .inl (nA Pr))), (hpd, .inl (cI, 8, .inl (nA Pd)))] H := hP.sub [6, 0, 1, 2, 3, 7, 4, 5] rfl
  have hD : va_D A [(b0, .inr (0, [.ref h3, .ref hrs, .int (nI dr), .int (nI kn), .int (nI nx), .ref hpr, .ref hpd])), (h3, .inr (3, [.int (nI n), .int (nI h), .int (nI rg), .int (nI sp), .ref hk, .ref hw, .ref hs])), (hk, .inl (cI, 6, .inl kf)), (hw, .inl (cI, 6, .inl wf)), (hs, .inl (cI, 6, .inl sf)), (hrs, .inl (cI, 24, .inl (nA (uN (rwN r (fun k => v % Wd k) k Rr) (r * 6 + k) (v % (Wd k)))))), (hpr, .inl (cI, 192, .inl (nA Pr))), (hpd, .inl (cI, 8, .inl (nA Pd)))] := hD.sub [6, 0, 1, 2, 3, 7, 4, 5] (by decide) rfl
  have ec : nA (uN (rwN r (fun k => v % Wd k) k Rr) (r * 6 + k) (v % (Wd k))) = nA (rwN r (fun k => v % Wd k) (k + 1) Rr) := rwN_s (rfl)
  rw [ec] at hP hD
  have hP : va_P (dC, dI) vwCl [(b0, .inr (0, [.ref h3, .ref hrs, .int (nI dr), .int (nI kn), .int (nI nx), .ref hpr, .ref hpd])), (h3, .inr (3, [.int (nI n), .int (nI h), .int (nI rg), .int (nI sp), .ref hk, .ref hw, .ref hs])), (hk, .inl (cI, 6, .inl kf)), (hw, .inl (cI, 6, .inl wf)), (hs, .inl (cI, 6, .inl sf)), (hrs, .inl (cI, 24, .inl (nA (rwN r (fun k => v % Wd k) (k + 1) Rr)))), (hpr, .inl (cI, 192, .inl (nA Pr))), (hpd, .inl (cI, 8, .inl (nA Pd)))] H := hP
  have hD : va_D A [(b0, .inr (0, [.ref h3, .ref hrs, .int (nI dr), .int (nI kn), .int (nI nx), .ref hpr, .ref hpd])), (h3, .inr (3, [.int (nI n), .int (nI h), .int (nI rg), .int (nI sp), .ref hk, .ref hw, .ref hs])), (hk, .inl (cI, 6, .inl kf)), (hw, .inl (cI, 6, .inl wf)), (hs, .inl (cI, 6, .inl sf)), (hrs, .inl (cI, 24, .inl (nA (rwN r (fun k => v % Wd k) (k + 1) Rr)))), (hpr, .inl (cI, 192, .inl (nA Pr))), (hpd, .inl (cI, 8, .inl (nA Pd)))] := hD
  refine lv_iinc (v := (nI (k + 1))) (lv' := [(3, .int (nI (k + 1))), (0, .ref b0), (1, .int (nI r)), (2, .int (nI v))]) hx hb dX0_put_30 hl (k := 0) rfl (rn_inc k 1) (by decide) rfl (fun ls hl => ?_)
  refine lv_goto (tgt := 2) hx hb dX0_put_33 (by decide) ?_
  exact ih2 (k + 1) _ _ ls ⟨by omega, hP, hD, hS, lv_sub hl [0, 1, 2, 3] rfl⟩ (by omega)
set_option maxHeartbeats 4000000 in
set_option maxRecDepth 100000 in
theorem c_X0_addTo (l : Launch) (dC : Nat → ClassId) (dI : Nat → Nat → Nat) (cI cJ cS : ClassId) (sz : Nat) (b0 h3 hk hw hs hrs hpr hpd : Nat) (n h rg sp dr kn nx : Nat) (kf wf sf : Nat → Int32) (Kd Wd Sh Rr Pr Pd : Nat → Nat) (r o : Nat) (ok : wOk n Kd Wd) (fk : isA n kf Kd) (fw : isA n wf Wd) (hR : rOk n Wd Rr) (hr4 : r < 4) (ho4 : o < 4) : Met l yX0_addTo wsX0_addTo ({ frames := 4, cells := 0, slots := 0, locals := 92 }) (va_Pc [.ref b0, .int (nI r), .int (nI o)] (rW (dC, dI) vwCl [(b0, .inr (0, [.ref h3, .ref hrs, .int (nI dr), .int (nI kn), .int (nI nx), .ref hpr, .ref hpd])), (h3, .inr (3, [.int (nI n), .int (nI h), .int (nI rg), .int (nI sp), .ref hk, .ref hw, .ref hs])), (hk, .inl (cI, 6, .inl kf)), (hw, .inl (cI, 6, .inl wf)), (hs, .inl (cI, 6, .inl sf)), (hrs, .inl (cI, 24, .inl (nA Rr))), (hpr, .inl (cI, 192, .inl (nA Pr))), (hpd, .inl (cI, 8, .inl (nA Pd)))] (tyz cI cJ cS) sz)) (qV (dC, dI) vwCl [(b0, .inr (0, [.ref h3, .ref hrs, .int (nI dr), .int (nI kn), .int (nI nx), .ref hpr, .ref hpd])), (h3, .inr (3, [.int (nI n), .int (nI h), .int (nI rg), .int (nI sp), .ref hk, .ref hw, .ref hs])), (hk, .inl (cI, 6, .inl kf)), (hw, .inl (cI, 6, .inl wf)), (hs, .inl (cI, 6, .inl sf)), (hrs, .inl (cI, 24, .inl (nA (rwN r (adF Kd Wd Rr r o) n Rr)))), (hpr, .inl (cI, 192, .inl (nA Pr))), (hpd, .inl (cI, 8, .inl (nA Pd)))] (va_A [(b0, .inr (0, [.ref h3, .ref hrs, .int (nI dr), .int (nI kn), .int (nI nx), .ref hpr, .ref hpd])), (h3, .inr (3, [.int (nI n), .int (nI h), .int (nI rg), .int (nI sp), .ref hk, .ref hw, .ref hs])), (hk, .inl (cI, 6, .inl kf)), (hw, .inl (cI, 6, .inl wf)), (hs, .inl (cI, 6, .inl sf)), (hrs, .inl (cI, 24, .inl (nA Rr))), (hpr, .inl (cI, 192, .inl (nA Pr))), (hpd, .inl (cI, 8, .inl (nA Pd)))] sz)) 0 0 (va_A [(b0, .inr (0, [.ref h3, .ref hrs, .int (nI dr), .int (nI kn), .int (nI nx), .ref hpr, .ref hpd])), (h3, .inr (3, [.int (nI n), .int (nI h), .int (nI rg), .int (nI sp), .ref hk, .ref hw, .ref hs])), (hk, .inl (cI, 6, .inl kf)), (hw, .inl (cI, 6, .inl wf)), (hs, .inl (cI, 6, .inl sf)), (hrs, .inl (cI, 24, .inl (nA Rr))), (hpr, .inl (cI, 192, .inl (nA Pr))), (hpd, .inl (cI, 8, .inl (nA Pd)))] sz) := by
  refine Met.ofW (cc := cX0_addTo) (maxL := 4) (ret := none) (by decide) rfl ?_
  intro p e s m args below meth c s₁ B hml hv
  obtain ⟨rfl, hsz, hP, hKK, hD0⟩ := hv
  have hK := hKK.1
  have hx := B.exec
  have hb := B.bytes
  have hr := B.returns
  have hts := atoms_spec (ws := wsX0_addTo) B.pre
  have hown : s.vm.findClass RX0 = some m.cls := findClass_of_methodNamed B.named
  have hlocks := B.notSynchronized
  subst hsz
  have hD := hD0.self (sz := s.heap.size)
  generalize hAe : va_A [(b0, .inr (0, [.ref h3, .ref hrs, .int (nI dr), .int (nI kn), .int (nI nx), .ref hpr, .ref hpd])), (h3, .inr (3, [.int (nI n), .int (nI h), .int (nI rg), .int (nI sp), .ref hk, .ref hw, .ref hs])), (hk, .inl (cI, 6, .inl kf)), (hw, .inl (cI, 6, .inl wf)), (hs, .inl (cI, 6, .inl sf)), (hrs, .inl (cI, 24, .inl (nA Rr))), (hpr, .inl (cI, 192, .inl (nA Pr))), (hpd, .inl (cI, 8, .inl (nA Pd)))] s.heap.size = A at hD ⊢
  have hA : ∀ q : Nat, s.heap.size ≤ q → A q := fun q h => by rw [← hAe]; exact Or.inr h
  have hS : va_S A s.heap s.heap [] := va_S.rf
  have hP : va_P (dC, dI) vwCl [(b0, .inr (0, [.ref h3, .ref hrs, .int (nI dr), .int (nI kn), .int (nI nx), .ref hpr, .ref hpd])), (h3, .inr (3, [.int (nI n), .int (nI h), .int (nI rg), .int (nI sp), .ref hk, .ref hw, .ref hs])), (hk, .inl (cI, 6, .inl kf)), (hw, .inl (cI, 6, .inl wf)), (hs, .inl (cI, 6, .inl sf)), (hrs, .inl (cI, 24, .inl (nA Rr))), (hpr, .inl (cI, 192, .inl (nA Pr))), (hpd, .inl (cI, 8, .inl (nA Pd)))] s.heap := hP
  have hiX0 : ∀ w ∈ wsX00, w ∈ wsX0_addTo := by decide +kernel
  have hiX3 : ∀ w ∈ wsX30, w ∈ wsX0_addTo := by decide +kernel
  have hl := lv_entry ([.ref b0, .int (nI r), .int (nI o)]) (n := 4) (Nat.le_of_ble_eq_true rfl)
  rw [lg_entry_eq]
  generalize (lg_sl ([.ref b0, .int (nI r), .int (nI o)]) ++ List.replicate (4 - (lg_sl ([.ref b0, .int (nI r), .int (nI o)])).length) Slot.unset).toArray = ls at hl ⊢
  have hl : lv_has ls 4 [(0, .ref b0), (1, .int (nI r)), (2, .int (nI o))] := hl
  have hn6 := ok.1
  refine lv_iconst (v := (nI 0)) hx hb dX0_addTo_0 (by decide) ?_
  refine lv_istore_n (lv' := [(3, .int (nI 0)), (0, .ref b0), (1, .int (nI r)), (2, .int (nI o))]) hx hb dX0_addTo_1 rfl hl (by decide) rfl (fun ls hl => ?_)
  have ec : nA Rr = nA (rwN r (adF Kd Wd Rr r o) 0 Rr) := rwN_0 _ _ _
  rw [ec] at hP hD
  have hP : va_P (dC, dI) vwCl [(b0, .inr (0, [.ref h3, .ref hrs, .int (nI dr), .int (nI kn), .int (nI nx), .ref hpr, .ref hpd])), (h3, .inr (3, [.int (nI n), .int (nI h), .int (nI rg), .int (nI sp), .ref hk, .ref hw, .ref hs])), (hk, .inl (cI, 6, .inl kf)), (hw, .inl (cI, 6, .inl wf)), (hs, .inl (cI, 6, .inl sf)), (hrs, .inl (cI, 24, .inl (nA (rwN r (adF Kd Wd Rr r o) 0 Rr)))), (hpr, .inl (cI, 192, .inl (nA Pr))), (hpd, .inl (cI, 8, .inl (nA Pd)))] s.heap := hP
  have hD : va_D A [(b0, .inr (0, [.ref h3, .ref hrs, .int (nI dr), .int (nI kn), .int (nI nx), .ref hpr, .ref hpd])), (h3, .inr (3, [.int (nI n), .int (nI h), .int (nI rg), .int (nI sp), .ref hk, .ref hw, .ref hs])), (hk, .inl (cI, 6, .inl kf)), (hw, .inl (cI, 6, .inl wf)), (hs, .inl (cI, 6, .inl sf)), (hrs, .inl (cI, 24, .inl (nA (rwN r (adF Kd Wd Rr r o) 0 Rr)))), (hpr, .inl (cI, 192, .inl (nA Pr))), (hpd, .inl (cI, 8, .inl (nA Pd)))] := hD
  refine rlW1 (A1 := Nat) (fun H locs ls => W p l e _ s m _ below meth c H locs 0 0 _ (F0 m 2 ls [])) (fun k H locs ls => k ≤ n ∧ va_P (dC, dI) vwCl [(b0, .inr (0, [.ref h3, .ref hrs, .int (nI dr), .int (nI kn), .int (nI nx), .ref hpr, .ref hpd])), (h3, .inr (3, [.int (nI n), .int (nI h), .int (nI rg), .int (nI sp), .ref hk, .ref hw, .ref hs])), (hk, .inl (cI, 6, .inl kf)), (hw, .inl (cI, 6, .inl wf)), (hs, .inl (cI, 6, .inl sf)), (hrs, .inl (cI, 24, .inl (nA (rwN r (adF Kd Wd Rr r o) k Rr)))), (hpr, .inl (cI, 192, .inl (nA Pr))), (hpd, .inl (cI, 8, .inl (nA Pd)))] H ∧ va_D A [(b0, .inr (0, [.ref h3, .ref hrs, .int (nI dr), .int (nI kn), .int (nI nx), .ref hpr, .ref hpd])), (h3, .inr (3, [.int (nI n), .int (nI h), .int (nI rg), .int (nI sp), .ref hk, .ref hw, .ref hs])), (hk, .inl (cI, 6, .inl kf)), (hw, .inl (cI, 6, .inl wf)), (hs, .inl (cI, 6, .inl sf)), (hrs, .inl (cI, 24, .inl (nA (rwN r (adF Kd Wd Rr r o) k Rr)))), (hpr, .inl (cI, 192, .inl (nA Pr))), (hpd, .inl (cI, 8, .inl (nA Pd)))] ∧ va_S A s.heap H locs ∧ lv_has ls 4 [(3, .int (nI k)), (0, .ref b0), (1, .int (nI r)), (2, .int (nI o))]) (fun k => n - k) ?_ 0 _ _ ls ⟨by omega, hP, hD, hS, lv_sub hl [0, 1, 2, 3] rfl⟩
  rintro k H locs ls ⟨hi, hP, hD, hS, hl⟩ ih2
  refine lv_iload_n hx hb dX0_addTo_2 rfl (lv_at hl 0 rfl) ?_
  refine lv_aload_n hx hb dX0_addTo_3 rfl (lv_at hl 1 rfl) ?_
  refine va_get (D := (dC, dI)) (ci := 0) (v := .ref h3) (C := RX0) (T := TX0) (N := 7) hx hb hts hiX0 hown hK hP 0 rfl rfl 0 (by decide) (hts (.fieldLink RX0 12 "RestRegisters$Bank" "wheels" "LRestRegisters$Wheels;") (by decide +kernel)) (fun _ h9 => h9) rfl dX0_addTo_4 ?_
  refine va_get (D := (dC, dI)) (ci := 3) (v := .int (nI n)) (C := RX3) (T := TX3) (N := 7) hx hb hts hiX3 hown hK hP 1 rfl rfl 0 (by decide) (hts (.fieldLink RX0 54 "RestRegisters$Wheels" "size" "I") (by decide +kernel)) (fun _ h9 => h9) rfl dX0_addTo_7 ?_
  refine rn_icmp_ge (tgt := 45) hx hb dX0_addTo_10 (by decide) (by omega) (by omega) (fun c10 => ?_) (fun c10 => ?_)
  · skip
    have ek : k = n := Nat.le_antisymm hi c10
    subst ek
    exact rr_vretW hx hb hr hlocks dX0_addTo_45 hP hD hS
  refine lv_aload_n hx hb dX0_addTo_13 rfl (lv_at hl 1 rfl) ?_
  refine lv_iload_n hx hb dX0_addTo_14 rfl (lv_at hl 2 rfl) ?_
  refine lv_iload_n hx hb dX0_addTo_15 rfl (lv_at hl 0 rfl) ?_
  refine lv_aload_n hx hb dX0_addTo_16 rfl (lv_at hl 1 rfl) ?_
  refine va_get (D := (dC, dI)) (ci := 0) (v := .ref h3) (C := RX0) (T := TX0) (N := 7) hx hb hts hiX0 hown hK hP 0 rfl rfl 0 (by decide) (hts (.fieldLink RX0 12 "RestRegisters$Bank" "wheels" "LRestRegisters$Wheels;") (by decide +kernel)) (fun _ h9 => h9) rfl dX0_addTo_17 ?_
  refine lv_iload_n hx hb dX0_addTo_20 rfl (lv_at hl 0 rfl) ?_
  refine lv_aload_n hx hb dX0_addTo_21 rfl (lv_at hl 1 rfl) ?_
  refine lv_iload_n hx hb dX0_addTo_22 rfl (lv_at hl 2 rfl) ?_
  refine lv_iload_n hx hb dX0_addTo_23 rfl (lv_at hl 0 rfl) ?_
  refine rr_callR (va_runV (As := [.int (nI r), .int (nI k)]) (rest := [.int (nI k), .ref h3, .int (nI k), .int (nI r), .ref b0]) ⟨hx, hb, hml, hown, hts⟩ (c_X0_shown l dC dI cI cJ cS b0 h3 hrs hpr hpd dr kn nx (rwN r (adF Kd Wd Rr r o) k Rr) r k (by first | assumption | omega) (by first | assumption | omega)) (cwV 2 hts gX0_addTo_X0_shown rfl rfl rfl (by decide +kernel) ⟨Nat.le_of_ble_eq_true rfl, Nat.le_of_ble_eq_true rfl⟩) (rr_preV hKK (hP.sub [0, 5] rfl) rfl rfl) rfl rfl hl.1 rfl (lv_room (Nat.le_of_ble_eq_true rfl)) dX0_addTo_24 ⟨Nat.zero_le _, Nat.zero_le _⟩) ?_
  refine rn_top (y := Rr (r * 6 + k)) (rwN_at (by omega)) ?_
  refine lv_aload_n hx hb dX0_addTo_27 rfl (lv_at hl 1 rfl) ?_
  refine lv_iload_n hx hb dX0_addTo_28 rfl (lv_at hl 3 rfl) ?_
  refine lv_iload_n hx hb dX0_addTo_29 rfl (lv_at hl 0 rfl) ?_
  refine rr_callR (va_runV (As := [.int (nI o), .int (nI k)]) (rest := [.int (nI (Rr (r * 6 + k))), .int (nI k), .ref h3, .int (nI k), .int (nI r), .ref b0]) ⟨hx, hb, hml, hown, hts⟩ (c_X0_shown l dC dI cI cJ cS b0 h3 hrs hpr hpd dr kn nx (rwN r (adF Kd Wd Rr r o) k Rr) o k (by first | assumption | omega) (by first | assumption | omega)) (cwV 2 hts gX0_addTo_X0_shown rfl rfl rfl (by decide +kernel) ⟨Nat.le_of_ble_eq_true rfl, Nat.le_of_ble_eq_true rfl⟩) (rr_preV hKK (hP.sub [0, 5] rfl) rfl rfl) rfl rfl hl.1 rfl (lv_room (Nat.le_of_ble_eq_true rfl)) dX0_addTo_30 ⟨Nat.zero_le _, Nat.zero_le _⟩) ?_
  refine rn_top (y := Rr (o * 6 + k)) (rwN_at (by omega)) ?_
  refine rr_callR (va_runV (As := [.int (nI k), .int (nI (Rr (r * 6 + k))), .int (nI (Rr (o * 6 + k)))]) (rest := [.int (nI k), .int (nI r), .ref b0]) ⟨hx, hb, hml, hown, hts⟩ (c_X3_added l dC dI cI cJ cS h3 hk hw hs n h rg sp kf wf sf Kd Wd Sh k (Rr (r * 6 + k)) (Rr (o * 6 + k)) (by first | assumption | omega) (by first | assumption | omega) (by first | assumption | omega) (by first | assumption | omega) (hR r k hr4 (by omega)) (hR o k ho4 (by omega))) (cwV 3 hts gX0_addTo_X3_added rfl rfl rfl (by decide +kernel) ⟨Nat.le_of_ble_eq_true rfl, Nat.le_of_ble_eq_true rfl⟩) (rr_preV hKK (hP.sub [1, 2, 3, 4] rfl) rfl rfl) rfl rfl hl.1 rfl (lv_room (Nat.le_of_ble_eq_true rfl)) dX0_addTo_33 ⟨Nat.zero_le _, Nat.zero_le _⟩) ?_
  refine rw_callv (va_runV (As := [.int (nI r), .int (nI k), .int (nI (addK (Kd k) (Wd k) (Rr (r * 6 + k)) (Rr (o * 6 + k))))]) (rest := []) ⟨hx, hb, hml, hown, hts⟩ (c_X0_show l dC dI cI cJ cS _ b0 h3 hrs hpr hpd dr kn nx (rwN r (adF Kd Wd Rr r o) k Rr) r k (addK (Kd k) (Wd k) (Rr (r * 6 + k)) (Rr (o * 6 + k))) (by first | assumption | omega) (by first | assumption | omega)) (cwV 3 hts gX0_addTo_X0_show rfl rfl rfl (by decide +kernel) ⟨Nat.le_of_ble_eq_true rfl, Nat.le_of_ble_eq_true rfl⟩) (rw_preV hKK (hP.sub [0, 5] rfl) (hD.sub [0, 5] (by decide) rfl) rfl rfl) rfl rfl hl.1 rfl (lv_room (Nat.le_of_ble_eq_true rfl)) dX0_addTo_36 ⟨Nat.zero_le _, Nat.zero_le _⟩) (wr := [(h3, .inr (3, [.int (nI n), .int (nI h), .int (nI rg), .int (nI sp), .ref hk, .ref hw, .ref hs])), (hk, .inl (cI, 6, .inl kf)), (hw, .inl (cI, 6, .inl wf)), (hs, .inl (cI, 6, .inl sf)), (hpr, .inl (cI, 192, .inl (nA Pr))), (hpd, .inl (cI, 8, .inl (nA Pd)))]) hP hD hS hA [0, 5] [1, 2, 3, 4, 6, 7] rfl rfl (by decide) (by decide) (fun H locs hP hD hS => ?_)
  have hP : va_P (dC, dI) vwCl [(b0, .inr (0, [.ref h3, .ref hrs, .int (nI dr), .int (nI kn), .int (nI nx), .ref hpr, .ref hpd])), (h3, .inr (3, [.int (nI n), .int (nI h), .int (nI rg), .int (nI sp), .ref hk, .ref hw, .ref hs])), (hk, .inl (cI, 6, .inl kf)), (hw, .inl (cI, 6, .inl wf)), (hs, .inl (cI, 6, .inl sf)), (hrs, .inl (cI, 24, .inl (nA (uN (rwN r (adF Kd Wd Rr r o) k Rr) (r * 6 + k) (addK (Kd k) (Wd k) (Rr (r * 6 + k)) (Rr (o * 6 + k))))))), (hpr, .inl (cI, 192, .inl (nA Pr))), (hpd, .inl (cI, 8, .inl (nA Pd)))] H := hP.sub [6, 0, 1, 2, 3, 7, 4, 5] rfl
  have hD : va_D A [(b0, .inr (0, [.ref h3, .ref hrs, .int (nI dr), .int (nI kn), .int (nI nx), .ref hpr, .ref hpd])), (h3, .inr (3, [.int (nI n), .int (nI h), .int (nI rg), .int (nI sp), .ref hk, .ref hw, .ref hs])), (hk, .inl (cI, 6, .inl kf)), (hw, .inl (cI, 6, .inl wf)), (hs, .inl (cI, 6, .inl sf)), (hrs, .inl (cI, 24, .inl (nA (uN (rwN r (adF Kd Wd Rr r o) k Rr) (r * 6 + k) (addK (Kd k) (Wd k) (Rr (r * 6 + k)) (Rr (o * 6 + k))))))), (hpr, .inl (cI, 192, .inl (nA Pr))), (hpd, .inl (cI, 8, .inl (nA Pd)))] := hD.sub [6, 0, 1, 2, 3, 7, 4, 5] (by decide) rfl
  have ec : nA (uN (rwN r (adF Kd Wd Rr r o) k Rr) (r * 6 + k) (addK (Kd k) (Wd k) (Rr (r * 6 + k)) (Rr (o * 6 + k)))) = nA (rwN r (adF Kd Wd Rr r o) (k + 1) Rr) := rwN_s (rfl)
  rw [ec] at hP hD
  have hP : va_P (dC, dI) vwCl [(b0, .inr (0, [.ref h3, .ref hrs, .int (nI dr), .int (nI kn), .int (nI nx), .ref hpr, .ref hpd])), (h3, .inr (3, [.int (nI n), .int (nI h), .int (nI rg), .int (nI sp), .ref hk, .ref hw, .ref hs])), (hk, .inl (cI, 6, .inl kf)), (hw, .inl (cI, 6, .inl wf)), (hs, .inl (cI, 6, .inl sf)), (hrs, .inl (cI, 24, .inl (nA (rwN r (adF Kd Wd Rr r o) (k + 1) Rr)))), (hpr, .inl (cI, 192, .inl (nA Pr))), (hpd, .inl (cI, 8, .inl (nA Pd)))] H := hP
  have hD : va_D A [(b0, .inr (0, [.ref h3, .ref hrs, .int (nI dr), .int (nI kn), .int (nI nx), .ref hpr, .ref hpd])), (h3, .inr (3, [.int (nI n), .int (nI h), .int (nI rg), .int (nI sp), .ref hk, .ref hw, .ref hs])), (hk, .inl (cI, 6, .inl kf)), (hw, .inl (cI, 6, .inl wf)), (hs, .inl (cI, 6, .inl sf)), (hrs, .inl (cI, 24, .inl (nA (rwN r (adF Kd Wd Rr r o) (k + 1) Rr)))), (hpr, .inl (cI, 192, .inl (nA Pr))), (hpd, .inl (cI, 8, .inl (nA Pd)))] := hD
  refine lv_iinc (v := (nI (k + 1))) (lv' := [(3, .int (nI (k + 1))), (0, .ref b0), (1, .int (nI r)), (2, .int (nI o))]) hx hb dX0_addTo_39 hl (k := 0) rfl (rn_inc k 1) (by decide) rfl (fun ls hl => ?_)
  refine lv_goto (tgt := 2) hx hb dX0_addTo_42 (by decide) ?_
  exact ih2 (k + 1) _ _ ls ⟨by omega, hP, hD, hS, lv_sub hl [0, 1, 2, 3] rfl⟩ (by omega)
set_option maxHeartbeats 4000000 in
set_option maxRecDepth 100000 in
theorem c_X0_multiplyBy (l : Launch) (dC : Nat → ClassId) (dI : Nat → Nat → Nat) (cI cJ cS : ClassId) (sz : Nat) (b0 h3 hk hw hs hrs hpr hpd : Nat) (n h rg sp dr kn nx : Nat) (kf wf sf : Nat → Int32) (Kd Wd Sh Rr Pr Pd : Nat → Nat) (r o : Nat) (ok : wOk n Kd Wd) (fk : isA n kf Kd) (fw : isA n wf Wd) (hR : rOk n Wd Rr) (hr4 : r < 4) (ho4 : o < 4) : Met l yX0_multiplyBy wsX0_multiplyBy ({ frames := 6, cells := 0, slots := 0, locals := 141 }) (va_Pc [.ref b0, .int (nI r), .int (nI o)] (rW (dC, dI) vwCl [(b0, .inr (0, [.ref h3, .ref hrs, .int (nI dr), .int (nI kn), .int (nI nx), .ref hpr, .ref hpd])), (h3, .inr (3, [.int (nI n), .int (nI h), .int (nI rg), .int (nI sp), .ref hk, .ref hw, .ref hs])), (hk, .inl (cI, 6, .inl kf)), (hw, .inl (cI, 6, .inl wf)), (hs, .inl (cI, 6, .inl sf)), (hrs, .inl (cI, 24, .inl (nA Rr))), (hpr, .inl (cI, 192, .inl (nA Pr))), (hpd, .inl (cI, 8, .inl (nA Pd)))] (tyz cI cJ cS) sz)) (qV (dC, dI) vwCl [(b0, .inr (0, [.ref h3, .ref hrs, .int (nI dr), .int (nI kn), .int (nI nx), .ref hpr, .ref hpd])), (h3, .inr (3, [.int (nI n), .int (nI h), .int (nI rg), .int (nI sp), .ref hk, .ref hw, .ref hs])), (hk, .inl (cI, 6, .inl kf)), (hw, .inl (cI, 6, .inl wf)), (hs, .inl (cI, 6, .inl sf)), (hrs, .inl (cI, 24, .inl (nA (rwN r (muF Kd Wd Rr r o) n Rr)))), (hpr, .inl (cI, 192, .inl (nA Pr))), (hpd, .inl (cI, 8, .inl (nA Pd)))] (va_A [(b0, .inr (0, [.ref h3, .ref hrs, .int (nI dr), .int (nI kn), .int (nI nx), .ref hpr, .ref hpd])), (h3, .inr (3, [.int (nI n), .int (nI h), .int (nI rg), .int (nI sp), .ref hk, .ref hw, .ref hs])), (hk, .inl (cI, 6, .inl kf)), (hw, .inl (cI, 6, .inl wf)), (hs, .inl (cI, 6, .inl sf)), (hrs, .inl (cI, 24, .inl (nA Rr))), (hpr, .inl (cI, 192, .inl (nA Pr))), (hpd, .inl (cI, 8, .inl (nA Pd)))] sz)) 0 0 (va_A [(b0, .inr (0, [.ref h3, .ref hrs, .int (nI dr), .int (nI kn), .int (nI nx), .ref hpr, .ref hpd])), (h3, .inr (3, [.int (nI n), .int (nI h), .int (nI rg), .int (nI sp), .ref hk, .ref hw, .ref hs])), (hk, .inl (cI, 6, .inl kf)), (hw, .inl (cI, 6, .inl wf)), (hs, .inl (cI, 6, .inl sf)), (hrs, .inl (cI, 24, .inl (nA Rr))), (hpr, .inl (cI, 192, .inl (nA Pr))), (hpd, .inl (cI, 8, .inl (nA Pd)))] sz) := by
  refine Met.ofW (cc := cX0_multiplyBy) (maxL := 4) (ret := none) (by decide) rfl ?_
  intro p e s m args below meth c s₁ B hml hv
  obtain ⟨rfl, hsz, hP, hKK, hD0⟩ := hv
  have hK := hKK.1
  have hx := B.exec
  have hb := B.bytes
  have hr := B.returns
  have hts := atoms_spec (ws := wsX0_multiplyBy) B.pre
  have hown : s.vm.findClass RX0 = some m.cls := findClass_of_methodNamed B.named
  have hlocks := B.notSynchronized
  subst hsz
  have hD := hD0.self (sz := s.heap.size)
  generalize hAe : va_A [(b0, .inr (0, [.ref h3, .ref hrs, .int (nI dr), .int (nI kn), .int (nI nx), .ref hpr, .ref hpd])), (h3, .inr (3, [.int (nI n), .int (nI h), .int (nI rg), .int (nI sp), .ref hk, .ref hw, .ref hs])), (hk, .inl (cI, 6, .inl kf)), (hw, .inl (cI, 6, .inl wf)), (hs, .inl (cI, 6, .inl sf)), (hrs, .inl (cI, 24, .inl (nA Rr))), (hpr, .inl (cI, 192, .inl (nA Pr))), (hpd, .inl (cI, 8, .inl (nA Pd)))] s.heap.size = A at hD ⊢
  have hA : ∀ q : Nat, s.heap.size ≤ q → A q := fun q h => by rw [← hAe]; exact Or.inr h
  have hS : va_S A s.heap s.heap [] := va_S.rf
  have hP : va_P (dC, dI) vwCl [(b0, .inr (0, [.ref h3, .ref hrs, .int (nI dr), .int (nI kn), .int (nI nx), .ref hpr, .ref hpd])), (h3, .inr (3, [.int (nI n), .int (nI h), .int (nI rg), .int (nI sp), .ref hk, .ref hw, .ref hs])), (hk, .inl (cI, 6, .inl kf)), (hw, .inl (cI, 6, .inl wf)), (hs, .inl (cI, 6, .inl sf)), (hrs, .inl (cI, 24, .inl (nA Rr))), (hpr, .inl (cI, 192, .inl (nA Pr))), (hpd, .inl (cI, 8, .inl (nA Pd)))] s.heap := hP
  have hiX0 : ∀ w ∈ wsX00, w ∈ wsX0_multiplyBy := by decide +kernel
  have hiX3 : ∀ w ∈ wsX30, w ∈ wsX0_multiplyBy := by decide +kernel
  have hl := lv_entry ([.ref b0, .int (nI r), .int (nI o)]) (n := 4) (Nat.le_of_ble_eq_true rfl)
  rw [lg_entry_eq]
  generalize (lg_sl ([.ref b0, .int (nI r), .int (nI o)]) ++ List.replicate (4 - (lg_sl ([.ref b0, .int (nI r), .int (nI o)])).length) Slot.unset).toArray = ls at hl ⊢
  have hl : lv_has ls 4 [(0, .ref b0), (1, .int (nI r)), (2, .int (nI o))] := hl
  have hn6 := ok.1
  refine lv_iconst (v := (nI 0)) hx hb dX0_multiplyBy_0 (by decide) ?_
  refine lv_istore_n (lv' := [(3, .int (nI 0)), (0, .ref b0), (1, .int (nI r)), (2, .int (nI o))]) hx hb dX0_multiplyBy_1 rfl hl (by decide) rfl (fun ls hl => ?_)
  have ec : nA Rr = nA (rwN r (muF Kd Wd Rr r o) 0 Rr) := rwN_0 _ _ _
  rw [ec] at hP hD
  have hP : va_P (dC, dI) vwCl [(b0, .inr (0, [.ref h3, .ref hrs, .int (nI dr), .int (nI kn), .int (nI nx), .ref hpr, .ref hpd])), (h3, .inr (3, [.int (nI n), .int (nI h), .int (nI rg), .int (nI sp), .ref hk, .ref hw, .ref hs])), (hk, .inl (cI, 6, .inl kf)), (hw, .inl (cI, 6, .inl wf)), (hs, .inl (cI, 6, .inl sf)), (hrs, .inl (cI, 24, .inl (nA (rwN r (muF Kd Wd Rr r o) 0 Rr)))), (hpr, .inl (cI, 192, .inl (nA Pr))), (hpd, .inl (cI, 8, .inl (nA Pd)))] s.heap := hP
  have hD : va_D A [(b0, .inr (0, [.ref h3, .ref hrs, .int (nI dr), .int (nI kn), .int (nI nx), .ref hpr, .ref hpd])), (h3, .inr (3, [.int (nI n), .int (nI h), .int (nI rg), .int (nI sp), .ref hk, .ref hw, .ref hs])), (hk, .inl (cI, 6, .inl kf)), (hw, .inl (cI, 6, .inl wf)), (hs, .inl (cI, 6, .inl sf)), (hrs, .inl (cI, 24, .inl (nA (rwN r (muF Kd Wd Rr r o) 0 Rr)))), (hpr, .inl (cI, 192, .inl (nA Pr))), (hpd, .inl (cI, 8, .inl (nA Pd)))] := hD
  refine rlW1 (A1 := Nat) (fun H locs ls => W p l e _ s m _ below meth c H locs 0 0 _ (F0 m 2 ls [])) (fun k H locs ls => k ≤ n ∧ va_P (dC, dI) vwCl [(b0, .inr (0, [.ref h3, .ref hrs, .int (nI dr), .int (nI kn), .int (nI nx), .ref hpr, .ref hpd])), (h3, .inr (3, [.int (nI n), .int (nI h), .int (nI rg), .int (nI sp), .ref hk, .ref hw, .ref hs])), (hk, .inl (cI, 6, .inl kf)), (hw, .inl (cI, 6, .inl wf)), (hs, .inl (cI, 6, .inl sf)), (hrs, .inl (cI, 24, .inl (nA (rwN r (muF Kd Wd Rr r o) k Rr)))), (hpr, .inl (cI, 192, .inl (nA Pr))), (hpd, .inl (cI, 8, .inl (nA Pd)))] H ∧ va_D A [(b0, .inr (0, [.ref h3, .ref hrs, .int (nI dr), .int (nI kn), .int (nI nx), .ref hpr, .ref hpd])), (h3, .inr (3, [.int (nI n), .int (nI h), .int (nI rg), .int (nI sp), .ref hk, .ref hw, .ref hs])), (hk, .inl (cI, 6, .inl kf)), (hw, .inl (cI, 6, .inl wf)), (hs, .inl (cI, 6, .inl sf)), (hrs, .inl (cI, 24, .inl (nA (rwN r (muF Kd Wd Rr r o) k Rr)))), (hpr, .inl (cI, 192, .inl (nA Pr))), (hpd, .inl (cI, 8, .inl (nA Pd)))] ∧ va_S A s.heap H locs ∧ lv_has ls 4 [(3, .int (nI k)), (0, .ref b0), (1, .int (nI r)), (2, .int (nI o))]) (fun k => n - k) ?_ 0 _ _ ls ⟨by omega, hP, hD, hS, lv_sub hl [0, 1, 2, 3] rfl⟩
  rintro k H locs ls ⟨hi, hP, hD, hS, hl⟩ ih2
  refine lv_iload_n hx hb dX0_multiplyBy_2 rfl (lv_at hl 0 rfl) ?_
  refine lv_aload_n hx hb dX0_multiplyBy_3 rfl (lv_at hl 1 rfl) ?_
  refine va_get (D := (dC, dI)) (ci := 0) (v := .ref h3) (C := RX0) (T := TX0) (N := 7) hx hb hts hiX0 hown hK hP 0 rfl rfl 0 (by decide) (hts (.fieldLink RX0 12 "RestRegisters$Bank" "wheels" "LRestRegisters$Wheels;") (by decide +kernel)) (fun _ h9 => h9) rfl dX0_multiplyBy_4 ?_
  refine va_get (D := (dC, dI)) (ci := 3) (v := .int (nI n)) (C := RX3) (T := TX3) (N := 7) hx hb hts hiX3 hown hK hP 1 rfl rfl 0 (by decide) (hts (.fieldLink RX0 54 "RestRegisters$Wheels" "size" "I") (by decide +kernel)) (fun _ h9 => h9) rfl dX0_multiplyBy_7 ?_
  refine rn_icmp_ge (tgt := 45) hx hb dX0_multiplyBy_10 (by decide) (by omega) (by omega) (fun c10 => ?_) (fun c10 => ?_)
  · skip
    have ek : k = n := Nat.le_antisymm hi c10
    subst ek
    exact rr_vretW hx hb hr hlocks dX0_multiplyBy_45 hP hD hS
  refine lv_aload_n hx hb dX0_multiplyBy_13 rfl (lv_at hl 1 rfl) ?_
  refine lv_iload_n hx hb dX0_multiplyBy_14 rfl (lv_at hl 2 rfl) ?_
  refine lv_iload_n hx hb dX0_multiplyBy_15 rfl (lv_at hl 0 rfl) ?_
  refine lv_aload_n hx hb dX0_multiplyBy_16 rfl (lv_at hl 1 rfl) ?_
  refine va_get (D := (dC, dI)) (ci := 0) (v := .ref h3) (C := RX0) (T := TX0) (N := 7) hx hb hts hiX0 hown hK hP 0 rfl rfl 0 (by decide) (hts (.fieldLink RX0 12 "RestRegisters$Bank" "wheels" "LRestRegisters$Wheels;") (by decide +kernel)) (fun _ h9 => h9) rfl dX0_multiplyBy_17 ?_
  refine lv_iload_n hx hb dX0_multiplyBy_20 rfl (lv_at hl 0 rfl) ?_
  refine lv_aload_n hx hb dX0_multiplyBy_21 rfl (lv_at hl 1 rfl) ?_
  refine lv_iload_n hx hb dX0_multiplyBy_22 rfl (lv_at hl 2 rfl) ?_
  refine lv_iload_n hx hb dX0_multiplyBy_23 rfl (lv_at hl 0 rfl) ?_
  refine rr_callR (va_runV (As := [.int (nI r), .int (nI k)]) (rest := [.int (nI k), .ref h3, .int (nI k), .int (nI r), .ref b0]) ⟨hx, hb, hml, hown, hts⟩ (c_X0_shown l dC dI cI cJ cS b0 h3 hrs hpr hpd dr kn nx (rwN r (muF Kd Wd Rr r o) k Rr) r k (by first | assumption | omega) (by first | assumption | omega)) (cwV 2 hts gX0_multiplyBy_X0_shown rfl rfl rfl (by decide +kernel) ⟨Nat.le_of_ble_eq_true rfl, Nat.le_of_ble_eq_true rfl⟩) (rr_preV hKK (hP.sub [0, 5] rfl) rfl rfl) rfl rfl hl.1 rfl (lv_room (Nat.le_of_ble_eq_true rfl)) dX0_multiplyBy_24 ⟨Nat.zero_le _, Nat.zero_le _⟩) ?_
  refine rn_top (y := Rr (r * 6 + k)) (rwN_at (by omega)) ?_
  refine lv_aload_n hx hb dX0_multiplyBy_27 rfl (lv_at hl 1 rfl) ?_
  refine lv_iload_n hx hb dX0_multiplyBy_28 rfl (lv_at hl 3 rfl) ?_
  refine lv_iload_n hx hb dX0_multiplyBy_29 rfl (lv_at hl 0 rfl) ?_
  refine rr_callR (va_runV (As := [.int (nI o), .int (nI k)]) (rest := [.int (nI (Rr (r * 6 + k))), .int (nI k), .ref h3, .int (nI k), .int (nI r), .ref b0]) ⟨hx, hb, hml, hown, hts⟩ (c_X0_shown l dC dI cI cJ cS b0 h3 hrs hpr hpd dr kn nx (rwN r (muF Kd Wd Rr r o) k Rr) o k (by first | assumption | omega) (by first | assumption | omega)) (cwV 2 hts gX0_multiplyBy_X0_shown rfl rfl rfl (by decide +kernel) ⟨Nat.le_of_ble_eq_true rfl, Nat.le_of_ble_eq_true rfl⟩) (rr_preV hKK (hP.sub [0, 5] rfl) rfl rfl) rfl rfl hl.1 rfl (lv_room (Nat.le_of_ble_eq_true rfl)) dX0_multiplyBy_30 ⟨Nat.zero_le _, Nat.zero_le _⟩) ?_
  refine rn_top (y := Rr (o * 6 + k)) (rwN_at (by omega)) ?_
  refine rr_callR (va_runV (As := [.int (nI k), .int (nI (Rr (r * 6 + k))), .int (nI (Rr (o * 6 + k)))]) (rest := [.int (nI k), .int (nI r), .ref b0]) ⟨hx, hb, hml, hown, hts⟩ (c_X3_multiplied l dC dI cI cJ cS h3 hk hw hs n h rg sp kf wf sf Kd Wd Sh k (Rr (r * 6 + k)) (Rr (o * 6 + k)) (by first | assumption | omega) (by first | assumption | omega) (by first | assumption | omega) (by first | assumption | omega) (hR r k hr4 (by omega)) (hR o k ho4 (by omega))) (cwV 3 hts gX0_multiplyBy_X3_multiplied rfl rfl rfl (by decide +kernel) ⟨Nat.le_of_ble_eq_true rfl, Nat.le_of_ble_eq_true rfl⟩) (rr_preV hKK (hP.sub [1, 2, 3, 4] rfl) rfl rfl) rfl rfl hl.1 rfl (lv_room (Nat.le_of_ble_eq_true rfl)) dX0_multiplyBy_33 ⟨Nat.zero_le _, Nat.zero_le _⟩) ?_
  refine rw_callv (va_runV (As := [.int (nI r), .int (nI k), .int (nI (addO (Kd k) (Wd k) 0 (Rr (r * 6 + k)) (Rr (o * 6 + k))))]) (rest := []) ⟨hx, hb, hml, hown, hts⟩ (c_X0_show l dC dI cI cJ cS _ b0 h3 hrs hpr hpd dr kn nx (rwN r (muF Kd Wd Rr r o) k Rr) r k (addO (Kd k) (Wd k) 0 (Rr (r * 6 + k)) (Rr (o * 6 + k))) (by first | assumption | omega) (by first | assumption | omega)) (cwV 3 hts gX0_multiplyBy_X0_show rfl rfl rfl (by decide +kernel) ⟨Nat.le_of_ble_eq_true rfl, Nat.le_of_ble_eq_true rfl⟩) (rw_preV hKK (hP.sub [0, 5] rfl) (hD.sub [0, 5] (by decide) rfl) rfl rfl) rfl rfl hl.1 rfl (lv_room (Nat.le_of_ble_eq_true rfl)) dX0_multiplyBy_36 ⟨Nat.zero_le _, Nat.zero_le _⟩) (wr := [(h3, .inr (3, [.int (nI n), .int (nI h), .int (nI rg), .int (nI sp), .ref hk, .ref hw, .ref hs])), (hk, .inl (cI, 6, .inl kf)), (hw, .inl (cI, 6, .inl wf)), (hs, .inl (cI, 6, .inl sf)), (hpr, .inl (cI, 192, .inl (nA Pr))), (hpd, .inl (cI, 8, .inl (nA Pd)))]) hP hD hS hA [0, 5] [1, 2, 3, 4, 6, 7] rfl rfl (by decide) (by decide) (fun H locs hP hD hS => ?_)
  have hP : va_P (dC, dI) vwCl [(b0, .inr (0, [.ref h3, .ref hrs, .int (nI dr), .int (nI kn), .int (nI nx), .ref hpr, .ref hpd])), (h3, .inr (3, [.int (nI n), .int (nI h), .int (nI rg), .int (nI sp), .ref hk, .ref hw, .ref hs])), (hk, .inl (cI, 6, .inl kf)), (hw, .inl (cI, 6, .inl wf)), (hs, .inl (cI, 6, .inl sf)), (hrs, .inl (cI, 24, .inl (nA (uN (rwN r (muF Kd Wd Rr r o) k Rr) (r * 6 + k) (addO (Kd k) (Wd k) 0 (Rr (r * 6 + k)) (Rr (o * 6 + k))))))), (hpr, .inl (cI, 192, .inl (nA Pr))), (hpd, .inl (cI, 8, .inl (nA Pd)))] H := hP.sub [6, 0, 1, 2, 3, 7, 4, 5] rfl
  have hD : va_D A [(b0, .inr (0, [.ref h3, .ref hrs, .int (nI dr), .int (nI kn), .int (nI nx), .ref hpr, .ref hpd])), (h3, .inr (3, [.int (nI n), .int (nI h), .int (nI rg), .int (nI sp), .ref hk, .ref hw, .ref hs])), (hk, .inl (cI, 6, .inl kf)), (hw, .inl (cI, 6, .inl wf)), (hs, .inl (cI, 6, .inl sf)), (hrs, .inl (cI, 24, .inl (nA (uN (rwN r (muF Kd Wd Rr r o) k Rr) (r * 6 + k) (addO (Kd k) (Wd k) 0 (Rr (r * 6 + k)) (Rr (o * 6 + k))))))), (hpr, .inl (cI, 192, .inl (nA Pr))), (hpd, .inl (cI, 8, .inl (nA Pd)))] := hD.sub [6, 0, 1, 2, 3, 7, 4, 5] (by decide) rfl
  have ec : nA (uN (rwN r (muF Kd Wd Rr r o) k Rr) (r * 6 + k) (addO (Kd k) (Wd k) 0 (Rr (r * 6 + k)) (Rr (o * 6 + k)))) = nA (rwN r (muF Kd Wd Rr r o) (k + 1) Rr) := rwN_s (rfl)
  rw [ec] at hP hD
  have hP : va_P (dC, dI) vwCl [(b0, .inr (0, [.ref h3, .ref hrs, .int (nI dr), .int (nI kn), .int (nI nx), .ref hpr, .ref hpd])), (h3, .inr (3, [.int (nI n), .int (nI h), .int (nI rg), .int (nI sp), .ref hk, .ref hw, .ref hs])), (hk, .inl (cI, 6, .inl kf)), (hw, .inl (cI, 6, .inl wf)), (hs, .inl (cI, 6, .inl sf)), (hrs, .inl (cI, 24, .inl (nA (rwN r (muF Kd Wd Rr r o) (k + 1) Rr)))), (hpr, .inl (cI, 192, .inl (nA Pr))), (hpd, .inl (cI, 8, .inl (nA Pd)))] H := hP
  have hD : va_D A [(b0, .inr (0, [.ref h3, .ref hrs, .int (nI dr), .int (nI kn), .int (nI nx), .ref hpr, .ref hpd])), (h3, .inr (3, [.int (nI n), .int (nI h), .int (nI rg), .int (nI sp), .ref hk, .ref hw, .ref hs])), (hk, .inl (cI, 6, .inl kf)), (hw, .inl (cI, 6, .inl wf)), (hs, .inl (cI, 6, .inl sf)), (hrs, .inl (cI, 24, .inl (nA (rwN r (muF Kd Wd Rr r o) (k + 1) Rr)))), (hpr, .inl (cI, 192, .inl (nA Pr))), (hpd, .inl (cI, 8, .inl (nA Pd)))] := hD
  refine lv_iinc (v := (nI (k + 1))) (lv' := [(3, .int (nI (k + 1))), (0, .ref b0), (1, .int (nI r)), (2, .int (nI o))]) hx hb dX0_multiplyBy_39 hl (k := 0) rfl (rn_inc k 1) (by decide) rfl (fun ls hl => ?_)
  refine lv_goto (tgt := 2) hx hb dX0_multiplyBy_42 (by decide) ?_
  exact ih2 (k + 1) _ _ ls ⟨by omega, hP, hD, hS, lv_sub hl [0, 1, 2, 3] rfl⟩ (by omega)
set_option maxHeartbeats 4000000 in
set_option maxRecDepth 100000 in
theorem c_X0_turnAbout (l : Launch) (dC : Nat → ClassId) (dI : Nat → Nat → Nat) (cI cJ cS : ClassId) (sz : Nat) (b0 h3 hk hw hs hrs hpr hpd : Nat) (n h rg sp dr kn nx : Nat) (kf wf sf : Nat → Int32) (Kd Wd Sh Rr Pr Pd : Nat → Nat) (r : Nat) (ok : wOk n Kd Wd) (fk : isA n kf Kd) (fw : isA n wf Wd) (hR : rOk n Wd Rr) (hr4 : r < 4) : Met l yX0_turnAbout wsX0_turnAbout ({ frames := 1, cells := 0, slots := 0, locals := 23 }) (va_Pc [.ref b0, .int (nI r)] (rW (dC, dI) vwCl [(b0, .inr (0, [.ref h3, .ref hrs, .int (nI dr), .int (nI kn), .int (nI nx), .ref hpr, .ref hpd])), (h3, .inr (3, [.int (nI n), .int (nI h), .int (nI rg), .int (nI sp), .ref hk, .ref hw, .ref hs])), (hk, .inl (cI, 6, .inl kf)), (hw, .inl (cI, 6, .inl wf)), (hs, .inl (cI, 6, .inl sf)), (hrs, .inl (cI, 24, .inl (nA Rr))), (hpr, .inl (cI, 192, .inl (nA Pr))), (hpd, .inl (cI, 8, .inl (nA Pd)))] (tyz cI cJ cS) sz)) (qV (dC, dI) vwCl [(b0, .inr (0, [.ref h3, .ref hrs, .int (nI dr), .int (nI kn), .int (nI nx), .ref hpr, .ref hpd])), (h3, .inr (3, [.int (nI n), .int (nI h), .int (nI rg), .int (nI sp), .ref hk, .ref hw, .ref hs])), (hk, .inl (cI, 6, .inl kf)), (hw, .inl (cI, 6, .inl wf)), (hs, .inl (cI, 6, .inl sf)), (hrs, .inl (cI, 24, .inl (nA (rwN r (ngF Wd Rr r) n Rr)))), (hpr, .inl (cI, 192, .inl (nA Pr))), (hpd, .inl (cI, 8, .inl (nA Pd)))] (va_A [(b0, .inr (0, [.ref h3, .ref hrs, .int (nI dr), .int (nI kn), .int (nI nx), .ref hpr, .ref hpd])), (h3, .inr (3, [.int (nI n), .int (nI h), .int (nI rg), .int (nI sp), .ref hk, .ref hw, .ref hs])), (hk, .inl (cI, 6, .inl kf)), (hw, .inl (cI, 6, .inl wf)), (hs, .inl (cI, 6, .inl sf)), (hrs, .inl (cI, 24, .inl (nA Rr))), (hpr, .inl (cI, 192, .inl (nA Pr))), (hpd, .inl (cI, 8, .inl (nA Pd)))] sz)) 0 0 (va_A [(b0, .inr (0, [.ref h3, .ref hrs, .int (nI dr), .int (nI kn), .int (nI nx), .ref hpr, .ref hpd])), (h3, .inr (3, [.int (nI n), .int (nI h), .int (nI rg), .int (nI sp), .ref hk, .ref hw, .ref hs])), (hk, .inl (cI, 6, .inl kf)), (hw, .inl (cI, 6, .inl wf)), (hs, .inl (cI, 6, .inl sf)), (hrs, .inl (cI, 24, .inl (nA Rr))), (hpr, .inl (cI, 192, .inl (nA Pr))), (hpd, .inl (cI, 8, .inl (nA Pd)))] sz) := by
  refine Met.ofW (cc := cX0_turnAbout) (maxL := 4) (ret := none) (by decide) rfl ?_
  intro p e s m args below meth c s₁ B hml hv
  obtain ⟨rfl, hsz, hP, hKK, hD0⟩ := hv
  have hK := hKK.1
  have hx := B.exec
  have hb := B.bytes
  have hr := B.returns
  have hts := atoms_spec (ws := wsX0_turnAbout) B.pre
  have hown : s.vm.findClass RX0 = some m.cls := findClass_of_methodNamed B.named
  have hlocks := B.notSynchronized
  subst hsz
  have hD := hD0.self (sz := s.heap.size)
  generalize hAe : va_A [(b0, .inr (0, [.ref h3, .ref hrs, .int (nI dr), .int (nI kn), .int (nI nx), .ref hpr, .ref hpd])), (h3, .inr (3, [.int (nI n), .int (nI h), .int (nI rg), .int (nI sp), .ref hk, .ref hw, .ref hs])), (hk, .inl (cI, 6, .inl kf)), (hw, .inl (cI, 6, .inl wf)), (hs, .inl (cI, 6, .inl sf)), (hrs, .inl (cI, 24, .inl (nA Rr))), (hpr, .inl (cI, 192, .inl (nA Pr))), (hpd, .inl (cI, 8, .inl (nA Pd)))] s.heap.size = A at hD ⊢
  have hA : ∀ q : Nat, s.heap.size ≤ q → A q := fun q h => by rw [← hAe]; exact Or.inr h
  have hS : va_S A s.heap s.heap [] := va_S.rf
  have hP : va_P (dC, dI) vwCl [(b0, .inr (0, [.ref h3, .ref hrs, .int (nI dr), .int (nI kn), .int (nI nx), .ref hpr, .ref hpd])), (h3, .inr (3, [.int (nI n), .int (nI h), .int (nI rg), .int (nI sp), .ref hk, .ref hw, .ref hs])), (hk, .inl (cI, 6, .inl kf)), (hw, .inl (cI, 6, .inl wf)), (hs, .inl (cI, 6, .inl sf)), (hrs, .inl (cI, 24, .inl (nA Rr))), (hpr, .inl (cI, 192, .inl (nA Pr))), (hpd, .inl (cI, 8, .inl (nA Pd)))] s.heap := hP
  have hiX0 : ∀ w ∈ wsX00, w ∈ wsX0_turnAbout := by decide +kernel
  have hiX3 : ∀ w ∈ wsX30, w ∈ wsX0_turnAbout := by decide +kernel
  have hl := lv_entry ([.ref b0, .int (nI r)]) (n := 4) (Nat.le_of_ble_eq_true rfl)
  rw [lg_entry_eq]
  generalize (lg_sl ([.ref b0, .int (nI r)]) ++ List.replicate (4 - (lg_sl ([.ref b0, .int (nI r)])).length) Slot.unset).toArray = ls at hl ⊢
  have hl : lv_has ls 4 [(0, .ref b0), (1, .int (nI r))] := hl
  have hn6 := ok.1
  refine lv_iconst (v := (nI 0)) hx hb dX0_turnAbout_0 (by decide) ?_
  refine lv_istore_n (lv' := [(2, .int (nI 0)), (0, .ref b0), (1, .int (nI r))]) hx hb dX0_turnAbout_1 rfl hl (by decide) rfl (fun ls hl => ?_)
  have ec : nA Rr = nA (rwN r (ngF Wd Rr r) 0 Rr) := rwN_0 _ _ _
  rw [ec] at hP hD
  have hP : va_P (dC, dI) vwCl [(b0, .inr (0, [.ref h3, .ref hrs, .int (nI dr), .int (nI kn), .int (nI nx), .ref hpr, .ref hpd])), (h3, .inr (3, [.int (nI n), .int (nI h), .int (nI rg), .int (nI sp), .ref hk, .ref hw, .ref hs])), (hk, .inl (cI, 6, .inl kf)), (hw, .inl (cI, 6, .inl wf)), (hs, .inl (cI, 6, .inl sf)), (hrs, .inl (cI, 24, .inl (nA (rwN r (ngF Wd Rr r) 0 Rr)))), (hpr, .inl (cI, 192, .inl (nA Pr))), (hpd, .inl (cI, 8, .inl (nA Pd)))] s.heap := hP
  have hD : va_D A [(b0, .inr (0, [.ref h3, .ref hrs, .int (nI dr), .int (nI kn), .int (nI nx), .ref hpr, .ref hpd])), (h3, .inr (3, [.int (nI n), .int (nI h), .int (nI rg), .int (nI sp), .ref hk, .ref hw, .ref hs])), (hk, .inl (cI, 6, .inl kf)), (hw, .inl (cI, 6, .inl wf)), (hs, .inl (cI, 6, .inl sf)), (hrs, .inl (cI, 24, .inl (nA (rwN r (ngF Wd Rr r) 0 Rr)))), (hpr, .inl (cI, 192, .inl (nA Pr))), (hpd, .inl (cI, 8, .inl (nA Pd)))] := hD
  refine rlW1 (A1 := Nat) (fun H locs ls => W p l e _ s m _ below meth c H locs 0 0 _ (F0 m 2 ls [])) (fun k H locs ls => k ≤ n ∧ va_P (dC, dI) vwCl [(b0, .inr (0, [.ref h3, .ref hrs, .int (nI dr), .int (nI kn), .int (nI nx), .ref hpr, .ref hpd])), (h3, .inr (3, [.int (nI n), .int (nI h), .int (nI rg), .int (nI sp), .ref hk, .ref hw, .ref hs])), (hk, .inl (cI, 6, .inl kf)), (hw, .inl (cI, 6, .inl wf)), (hs, .inl (cI, 6, .inl sf)), (hrs, .inl (cI, 24, .inl (nA (rwN r (ngF Wd Rr r) k Rr)))), (hpr, .inl (cI, 192, .inl (nA Pr))), (hpd, .inl (cI, 8, .inl (nA Pd)))] H ∧ va_D A [(b0, .inr (0, [.ref h3, .ref hrs, .int (nI dr), .int (nI kn), .int (nI nx), .ref hpr, .ref hpd])), (h3, .inr (3, [.int (nI n), .int (nI h), .int (nI rg), .int (nI sp), .ref hk, .ref hw, .ref hs])), (hk, .inl (cI, 6, .inl kf)), (hw, .inl (cI, 6, .inl wf)), (hs, .inl (cI, 6, .inl sf)), (hrs, .inl (cI, 24, .inl (nA (rwN r (ngF Wd Rr r) k Rr)))), (hpr, .inl (cI, 192, .inl (nA Pr))), (hpd, .inl (cI, 8, .inl (nA Pd)))] ∧ va_S A s.heap H locs ∧ lv_has ls 4 [(2, .int (nI k)), (0, .ref b0), (1, .int (nI r))]) (fun k => n - k) ?_ 0 _ _ ls ⟨by omega, hP, hD, hS, lv_sub hl [0, 1, 2] rfl⟩
  rintro k H locs ls ⟨hi, hP, hD, hS, hl⟩ ih2
  refine lv_iload_n hx hb dX0_turnAbout_2 rfl (lv_at hl 0 rfl) ?_
  refine lv_aload_n hx hb dX0_turnAbout_3 rfl (lv_at hl 1 rfl) ?_
  refine va_get (D := (dC, dI)) (ci := 0) (v := .ref h3) (C := RX0) (T := TX0) (N := 7) hx hb hts hiX0 hown hK hP 0 rfl rfl 0 (by decide) (hts (.fieldLink RX0 12 "RestRegisters$Bank" "wheels" "LRestRegisters$Wheels;") (by decide +kernel)) (fun _ h9 => h9) rfl dX0_turnAbout_4 ?_
  refine va_get (D := (dC, dI)) (ci := 3) (v := .int (nI n)) (C := RX3) (T := TX3) (N := 7) hx hb hts hiX3 hown hK hP 1 rfl rfl 0 (by decide) (hts (.fieldLink RX0 54 "RestRegisters$Wheels" "size" "I") (by decide +kernel)) (fun _ h9 => h9) rfl dX0_turnAbout_7 ?_
  refine rn_icmp_ge (tgt := 51) hx hb dX0_turnAbout_10 (by decide) (by omega) (by omega) (fun c10 => ?_) (fun c10 => ?_)
  · skip
    have ek : k = n := Nat.le_antisymm hi c10
    subst ek
    exact rr_vretW hx hb hr hlocks dX0_turnAbout_51 hP hD hS
  refine lv_aload_n hx hb dX0_turnAbout_13 rfl (lv_at hl 1 rfl) ?_
  refine lv_iload_n hx hb dX0_turnAbout_14 rfl (lv_at hl 2 rfl) ?_
  refine lv_iload_n hx hb dX0_turnAbout_15 rfl (lv_at hl 0 rfl) ?_
  refine rr_callR (va_runV (As := [.int (nI r), .int (nI k)]) (rest := []) ⟨hx, hb, hml, hown, hts⟩ (c_X0_shown l dC dI cI cJ cS b0 h3 hrs hpr hpd dr kn nx (rwN r (ngF Wd Rr r) k Rr) r k (by first | assumption | omega) (by first | assumption | omega)) (cwV 2 hts gX0_turnAbout_X0_shown rfl rfl rfl (by decide +kernel) ⟨Nat.le_of_ble_eq_true rfl, Nat.le_of_ble_eq_true rfl⟩) (rr_preV hKK (hP.sub [0, 5] rfl) rfl rfl) rfl rfl hl.1 rfl (lv_room (Nat.le_of_ble_eq_true rfl)) dX0_turnAbout_16 ⟨Nat.zero_le _, Nat.zero_le _⟩) ?_
  refine rn_top (y := Rr (r * 6 + k)) (rwN_at (by omega)) ?_
  refine lv_istore_n (lv' := [(3, .int (nI (Rr (r * 6 + k)))), (2, .int (nI k)), (0, .ref b0), (1, .int (nI r))]) hx hb dX0_turnAbout_19 rfl hl (by decide) rfl (fun ls hl => ?_)
  refine lv_aload_n hx hb dX0_turnAbout_20 rfl (lv_at hl 2 rfl) ?_
  refine lv_iload_n hx hb dX0_turnAbout_21 rfl (lv_at hl 3 rfl) ?_
  refine lv_iload_n hx hb dX0_turnAbout_22 rfl (lv_at hl 1 rfl) ?_
  refine lv_iload_n hx hb dX0_turnAbout_23 rfl (lv_at hl 0 rfl) ?_
  have hq2 := hR r k hr4 (by omega)
  have hq3 := ok.2.2.1 k (by omega)
  refine rn_if_ne (tgt := 31) hx hb dX0_turnAbout_24 (by decide) (by omega) (fun c24 => ?_) (fun c24 => ?_)
  · skip
    refine lv_aload_n hx hb dX0_turnAbout_31 rfl (lv_at hl 2 rfl) ?_
    refine va_get (D := (dC, dI)) (ci := 0) (v := .ref h3) (C := RX0) (T := TX0) (N := 7) hx hb hts hiX0 hown hK hP 0 rfl rfl 0 (by decide) (hts (.fieldLink RX0 12 "RestRegisters$Bank" "wheels" "LRestRegisters$Wheels;") (by decide +kernel)) (fun _ h9 => h9) rfl dX0_turnAbout_32 ?_
    refine va_get (D := (dC, dI)) (ci := 3) (v := .ref hw) (C := RX3) (T := TX3) (N := 7) hx hb hts hiX3 hown hK hP 1 rfl rfl 5 (by decide) (hts (.fieldLink RX0 81 "RestRegisters$Wheels" "widths" "[I") (by decide +kernel)) (fun _ h9 => h9) rfl dX0_turnAbout_35 ?_
    refine lv_iload_n hx hb dX0_turnAbout_38 rfl (lv_at hl 1 rfl) ?_
    refine rn_iald hx hb hK hP 3 0 rfl rfl (i := k) (by omega) (by decide) (v := (nI (Wd k))) (fw k (by omega)) dX0_turnAbout_39 ?_
    have hv39 := ok.2.2.1 k (by omega)
    refine lv_iload_n hx hb dX0_turnAbout_40 rfl (lv_at hl 0 rfl) ?_
    refine rn_isub hx hb dX0_turnAbout_41 (by omega) ?_
    refine rw_callv (va_runV (As := [.int (nI r), .int (nI k), .int (nI (Wd k - (Rr (r * 6 + k))))]) (rest := []) ⟨hx, hb, hml, hown, hts⟩ (c_X0_show l dC dI cI cJ cS _ b0 h3 hrs hpr hpd dr kn nx (rwN r (ngF Wd Rr r) k Rr) r k (Wd k - (Rr (r * 6 + k))) (by first | assumption | omega) (by first | assumption | omega)) (cwV 3 hts gX0_turnAbout_X0_show rfl rfl rfl (by decide +kernel) ⟨Nat.le_of_ble_eq_true rfl, Nat.le_of_ble_eq_true rfl⟩) (rw_preV hKK (hP.sub [0, 5] rfl) (hD.sub [0, 5] (by decide) rfl) rfl rfl) rfl rfl hl.1 rfl (lv_room (Nat.le_of_ble_eq_true rfl)) dX0_turnAbout_42 ⟨Nat.zero_le _, Nat.zero_le _⟩) (wr := [(h3, .inr (3, [.int (nI n), .int (nI h), .int (nI rg), .int (nI sp), .ref hk, .ref hw, .ref hs])), (hk, .inl (cI, 6, .inl kf)), (hw, .inl (cI, 6, .inl wf)), (hs, .inl (cI, 6, .inl sf)), (hpr, .inl (cI, 192, .inl (nA Pr))), (hpd, .inl (cI, 8, .inl (nA Pd)))]) hP hD hS hA [0, 5] [1, 2, 3, 4, 6, 7] rfl rfl (by decide) (by decide) (fun H locs hP hD hS => ?_)
    have hP : va_P (dC, dI) vwCl [(b0, .inr (0, [.ref h3, .ref hrs, .int (nI dr), .int (nI kn), .int (nI nx), .ref hpr, .ref hpd])), (h3, .inr (3, [.int (nI n), .int (nI h), .int (nI rg), .int (nI sp), .ref hk, .ref hw, .ref hs])), (hk, .inl (cI, 6, .inl kf)), (hw, .inl (cI, 6, .inl wf)), (hs, .inl (cI, 6, .inl sf)), (hrs, .inl (cI, 24, .inl (nA (uN (rwN r (ngF Wd Rr r) k Rr) (r * 6 + k) (Wd k - (Rr (r * 6 + k))))))), (hpr, .inl (cI, 192, .inl (nA Pr))), (hpd, .inl (cI, 8, .inl (nA Pd)))] H := hP.sub [6, 0, 1, 2, 3, 7, 4, 5] rfl
    have hD : va_D A [(b0, .inr (0, [.ref h3, .ref hrs, .int (nI dr), .int (nI kn), .int (nI nx), .ref hpr, .ref hpd])), (h3, .inr (3, [.int (nI n), .int (nI h), .int (nI rg), .int (nI sp), .ref hk, .ref hw, .ref hs])), (hk, .inl (cI, 6, .inl kf)), (hw, .inl (cI, 6, .inl wf)), (hs, .inl (cI, 6, .inl sf)), (hrs, .inl (cI, 24, .inl (nA (uN (rwN r (ngF Wd Rr r) k Rr) (r * 6 + k) (Wd k - (Rr (r * 6 + k))))))), (hpr, .inl (cI, 192, .inl (nA Pr))), (hpd, .inl (cI, 8, .inl (nA Pd)))] := hD.sub [6, 0, 1, 2, 3, 7, 4, 5] (by decide) rfl
    have ec : nA (uN (rwN r (ngF Wd Rr r) k Rr) (r * 6 + k) (Wd k - (Rr (r * 6 + k)))) = nA (rwN r (ngF Wd Rr r) (k + 1) Rr) := rwN_s (by unfold ngF; first | (rw [if_pos c24]; done) | (rw [if_neg c24]))
    rw [ec] at hP hD
    have hP : va_P (dC, dI) vwCl [(b0, .inr (0, [.ref h3, .ref hrs, .int (nI dr), .int (nI kn), .int (nI nx), .ref hpr, .ref hpd])), (h3, .inr (3, [.int (nI n), .int (nI h), .int (nI rg), .int (nI sp), .ref hk, .ref hw, .ref hs])), (hk, .inl (cI, 6, .inl kf)), (hw, .inl (cI, 6, .inl wf)), (hs, .inl (cI, 6, .inl sf)), (hrs, .inl (cI, 24, .inl (nA (rwN r (ngF Wd Rr r) (k + 1) Rr)))), (hpr, .inl (cI, 192, .inl (nA Pr))), (hpd, .inl (cI, 8, .inl (nA Pd)))] H := hP
    have hD : va_D A [(b0, .inr (0, [.ref h3, .ref hrs, .int (nI dr), .int (nI kn), .int (nI nx), .ref hpr, .ref hpd])), (h3, .inr (3, [.int (nI n), .int (nI h), .int (nI rg), .int (nI sp), .ref hk, .ref hw, .ref hs])), (hk, .inl (cI, 6, .inl kf)), (hw, .inl (cI, 6, .inl wf)), (hs, .inl (cI, 6, .inl sf)), (hrs, .inl (cI, 24, .inl (nA (rwN r (ngF Wd Rr r) (k + 1) Rr)))), (hpr, .inl (cI, 192, .inl (nA Pr))), (hpd, .inl (cI, 8, .inl (nA Pd)))] := hD
    refine lv_iinc (v := (nI (k + 1))) (lv' := [(2, .int (nI (k + 1))), (3, .int (nI (Rr (r * 6 + k)))), (0, .ref b0), (1, .int (nI r))]) hx hb dX0_turnAbout_45 hl (k := 1) rfl (rn_inc k 1) (by decide) rfl (fun ls hl => ?_)
    refine lv_goto (tgt := 2) hx hb dX0_turnAbout_48 (by decide) ?_
    exact ih2 (k + 1) _ _ ls ⟨by omega, hP, hD, hS, lv_sub hl [0, 2, 3] rfl⟩ (by omega)
  refine lv_iconst (v := (nI 0)) hx hb dX0_turnAbout_27 (by decide) ?_
  refine lv_goto (tgt := 42) hx hb dX0_turnAbout_28 (by decide) ?_
  refine rw_callv (va_runV (As := [.int (nI r), .int (nI k), .int (nI 0)]) (rest := []) ⟨hx, hb, hml, hown, hts⟩ (c_X0_show l dC dI cI cJ cS _ b0 h3 hrs hpr hpd dr kn nx (rwN r (ngF Wd Rr r) k Rr) r k 0 (by first | assumption | omega) (by first | assumption | omega)) (cwV 3 hts gX0_turnAbout_X0_show rfl rfl rfl (by decide +kernel) ⟨Nat.le_of_ble_eq_true rfl, Nat.le_of_ble_eq_true rfl⟩) (rw_preV hKK (hP.sub [0, 5] rfl) (hD.sub [0, 5] (by decide) rfl) rfl rfl) rfl rfl hl.1 rfl (lv_room (Nat.le_of_ble_eq_true rfl)) dX0_turnAbout_42 ⟨Nat.zero_le _, Nat.zero_le _⟩) (wr := [(h3, .inr (3, [.int (nI n), .int (nI h), .int (nI rg), .int (nI sp), .ref hk, .ref hw, .ref hs])), (hk, .inl (cI, 6, .inl kf)), (hw, .inl (cI, 6, .inl wf)), (hs, .inl (cI, 6, .inl sf)), (hpr, .inl (cI, 192, .inl (nA Pr))), (hpd, .inl (cI, 8, .inl (nA Pd)))]) hP hD hS hA [0, 5] [1, 2, 3, 4, 6, 7] rfl rfl (by decide) (by decide) (fun H locs hP hD hS => ?_)
  have hP : va_P (dC, dI) vwCl [(b0, .inr (0, [.ref h3, .ref hrs, .int (nI dr), .int (nI kn), .int (nI nx), .ref hpr, .ref hpd])), (h3, .inr (3, [.int (nI n), .int (nI h), .int (nI rg), .int (nI sp), .ref hk, .ref hw, .ref hs])), (hk, .inl (cI, 6, .inl kf)), (hw, .inl (cI, 6, .inl wf)), (hs, .inl (cI, 6, .inl sf)), (hrs, .inl (cI, 24, .inl (nA (uN (rwN r (ngF Wd Rr r) k Rr) (r * 6 + k) 0)))), (hpr, .inl (cI, 192, .inl (nA Pr))), (hpd, .inl (cI, 8, .inl (nA Pd)))] H := hP.sub [6, 0, 1, 2, 3, 7, 4, 5] rfl
  have hD : va_D A [(b0, .inr (0, [.ref h3, .ref hrs, .int (nI dr), .int (nI kn), .int (nI nx), .ref hpr, .ref hpd])), (h3, .inr (3, [.int (nI n), .int (nI h), .int (nI rg), .int (nI sp), .ref hk, .ref hw, .ref hs])), (hk, .inl (cI, 6, .inl kf)), (hw, .inl (cI, 6, .inl wf)), (hs, .inl (cI, 6, .inl sf)), (hrs, .inl (cI, 24, .inl (nA (uN (rwN r (ngF Wd Rr r) k Rr) (r * 6 + k) 0)))), (hpr, .inl (cI, 192, .inl (nA Pr))), (hpd, .inl (cI, 8, .inl (nA Pd)))] := hD.sub [6, 0, 1, 2, 3, 7, 4, 5] (by decide) rfl
  have ec : nA (uN (rwN r (ngF Wd Rr r) k Rr) (r * 6 + k) 0) = nA (rwN r (ngF Wd Rr r) (k + 1) Rr) := rwN_s (by unfold ngF; first | (rw [if_pos c24]; done) | (rw [if_neg c24]))
  rw [ec] at hP hD
  have hP : va_P (dC, dI) vwCl [(b0, .inr (0, [.ref h3, .ref hrs, .int (nI dr), .int (nI kn), .int (nI nx), .ref hpr, .ref hpd])), (h3, .inr (3, [.int (nI n), .int (nI h), .int (nI rg), .int (nI sp), .ref hk, .ref hw, .ref hs])), (hk, .inl (cI, 6, .inl kf)), (hw, .inl (cI, 6, .inl wf)), (hs, .inl (cI, 6, .inl sf)), (hrs, .inl (cI, 24, .inl (nA (rwN r (ngF Wd Rr r) (k + 1) Rr)))), (hpr, .inl (cI, 192, .inl (nA Pr))), (hpd, .inl (cI, 8, .inl (nA Pd)))] H := hP
  have hD : va_D A [(b0, .inr (0, [.ref h3, .ref hrs, .int (nI dr), .int (nI kn), .int (nI nx), .ref hpr, .ref hpd])), (h3, .inr (3, [.int (nI n), .int (nI h), .int (nI rg), .int (nI sp), .ref hk, .ref hw, .ref hs])), (hk, .inl (cI, 6, .inl kf)), (hw, .inl (cI, 6, .inl wf)), (hs, .inl (cI, 6, .inl sf)), (hrs, .inl (cI, 24, .inl (nA (rwN r (ngF Wd Rr r) (k + 1) Rr)))), (hpr, .inl (cI, 192, .inl (nA Pr))), (hpd, .inl (cI, 8, .inl (nA Pd)))] := hD
  refine lv_iinc (v := (nI (k + 1))) (lv' := [(2, .int (nI (k + 1))), (3, .int (nI (Rr (r * 6 + k)))), (0, .ref b0), (1, .int (nI r))]) hx hb dX0_turnAbout_45 hl (k := 1) rfl (rn_inc k 1) (by decide) rfl (fun ls hl => ?_)
  refine lv_goto (tgt := 2) hx hb dX0_turnAbout_48 (by decide) ?_
  exact ih2 (k + 1) _ _ ls ⟨by omega, hP, hD, hS, lv_sub hl [0, 2, 3] rfl⟩ (by omega)
set_option maxHeartbeats 4000000 in
set_option maxRecDepth 100000 in
theorem c_X0_takeOver (l : Launch) (dC : Nat → ClassId) (dI : Nat → Nat → Nat) (cI cJ cS : ClassId) (sz : Nat) (b0 h3 hk hw hs hrs hpr hpd : Nat) (n h rg sp dr kn nx : Nat) (kf wf sf : Nat → Int32) (Kd Wd Sh Rr Pr Pd : Nat → Nat) (r o : Nat) (ok : wOk n Kd Wd) (hr4 : r < 4) (ho4 : o < 4) : Met l yX0_takeOver wsX0_takeOver ({ frames := 1, cells := 0, slots := 0, locals := 23 }) (va_Pc [.ref b0, .int (nI r), .int (nI o)] (rW (dC, dI) vwCl [(b0, .inr (0, [.ref h3, .ref hrs, .int (nI dr), .int (nI kn), .int (nI nx), .ref hpr, .ref hpd])), (h3, .inr (3, [.int (nI n), .int (nI h), .int (nI rg), .int (nI sp), .ref hk, .ref hw, .ref hs])), (hk, .inl (cI, 6, .inl kf)), (hw, .inl (cI, 6, .inl wf)), (hs, .inl (cI, 6, .inl sf)), (hrs, .inl (cI, 24, .inl (nA Rr))), (hpr, .inl (cI, 192, .inl (nA Pr))), (hpd, .inl (cI, 8, .inl (nA Pd)))] (tyz cI cJ cS) sz)) (qV (dC, dI) vwCl [(b0, .inr (0, [.ref h3, .ref hrs, .int (nI dr), .int (nI kn), .int (nI nx), .ref hpr, .ref hpd])), (h3, .inr (3, [.int (nI n), .int (nI h), .int (nI rg), .int (nI sp), .ref hk, .ref hw, .ref hs])), (hk, .inl (cI, 6, .inl kf)), (hw, .inl (cI, 6, .inl wf)), (hs, .inl (cI, 6, .inl sf)), (hrs, .inl (cI, 24, .inl (nA (rwN r (fun k => Rr (o * 6 + k)) n Rr)))), (hpr, .inl (cI, 192, .inl (nA Pr))), (hpd, .inl (cI, 8, .inl (nA Pd)))] (va_A [(b0, .inr (0, [.ref h3, .ref hrs, .int (nI dr), .int (nI kn), .int (nI nx), .ref hpr, .ref hpd])), (h3, .inr (3, [.int (nI n), .int (nI h), .int (nI rg), .int (nI sp), .ref hk, .ref hw, .ref hs])), (hk, .inl (cI, 6, .inl kf)), (hw, .inl (cI, 6, .inl wf)), (hs, .inl (cI, 6, .inl sf)), (hrs, .inl (cI, 24, .inl (nA Rr))), (hpr, .inl (cI, 192, .inl (nA Pr))), (hpd, .inl (cI, 8, .inl (nA Pd)))] sz)) 0 0 (va_A [(b0, .inr (0, [.ref h3, .ref hrs, .int (nI dr), .int (nI kn), .int (nI nx), .ref hpr, .ref hpd])), (h3, .inr (3, [.int (nI n), .int (nI h), .int (nI rg), .int (nI sp), .ref hk, .ref hw, .ref hs])), (hk, .inl (cI, 6, .inl kf)), (hw, .inl (cI, 6, .inl wf)), (hs, .inl (cI, 6, .inl sf)), (hrs, .inl (cI, 24, .inl (nA Rr))), (hpr, .inl (cI, 192, .inl (nA Pr))), (hpd, .inl (cI, 8, .inl (nA Pd)))] sz) := by
  refine Met.ofW (cc := cX0_takeOver) (maxL := 4) (ret := none) (by decide) rfl ?_
  intro p e s m args below meth c s₁ B hml hv
  obtain ⟨rfl, hsz, hP, hKK, hD0⟩ := hv
  have hK := hKK.1
  have hx := B.exec
  have hb := B.bytes
  have hr := B.returns
  have hts := atoms_spec (ws := wsX0_takeOver) B.pre
  have hown : s.vm.findClass RX0 = some m.cls := findClass_of_methodNamed B.named
  have hlocks := B.notSynchronized
  subst hsz
  have hD := hD0.self (sz := s.heap.size)
  generalize hAe : va_A [(b0, .inr (0, [.ref h3, .ref hrs, .int (nI dr), .int (nI kn), .int (nI nx), .ref hpr, .ref hpd])), (h3, .inr (3, [.int (nI n), .int (nI h), .int (nI rg), .int (nI sp), .ref hk, .ref hw, .ref hs])), (hk, .inl (cI, 6, .inl kf)), (hw, .inl (cI, 6, .inl wf)), (hs, .inl (cI, 6, .inl sf)), (hrs, .inl (cI, 24, .inl (nA Rr))), (hpr, .inl (cI, 192, .inl (nA Pr))), (hpd, .inl (cI, 8, .inl (nA Pd)))] s.heap.size = A at hD ⊢
  have hA : ∀ q : Nat, s.heap.size ≤ q → A q := fun q h => by rw [← hAe]; exact Or.inr h
  have hS : va_S A s.heap s.heap [] := va_S.rf
  have hP : va_P (dC, dI) vwCl [(b0, .inr (0, [.ref h3, .ref hrs, .int (nI dr), .int (nI kn), .int (nI nx), .ref hpr, .ref hpd])), (h3, .inr (3, [.int (nI n), .int (nI h), .int (nI rg), .int (nI sp), .ref hk, .ref hw, .ref hs])), (hk, .inl (cI, 6, .inl kf)), (hw, .inl (cI, 6, .inl wf)), (hs, .inl (cI, 6, .inl sf)), (hrs, .inl (cI, 24, .inl (nA Rr))), (hpr, .inl (cI, 192, .inl (nA Pr))), (hpd, .inl (cI, 8, .inl (nA Pd)))] s.heap := hP
  have hiX0 : ∀ w ∈ wsX00, w ∈ wsX0_takeOver := by decide +kernel
  have hiX3 : ∀ w ∈ wsX30, w ∈ wsX0_takeOver := by decide +kernel
  have hl := lv_entry ([.ref b0, .int (nI r), .int (nI o)]) (n := 4) (Nat.le_of_ble_eq_true rfl)
  rw [lg_entry_eq]
  generalize (lg_sl ([.ref b0, .int (nI r), .int (nI o)]) ++ List.replicate (4 - (lg_sl ([.ref b0, .int (nI r), .int (nI o)])).length) Slot.unset).toArray = ls at hl ⊢
  have hl : lv_has ls 4 [(0, .ref b0), (1, .int (nI r)), (2, .int (nI o))] := hl
  have hn6 := ok.1
  refine lv_iconst (v := (nI 0)) hx hb dX0_takeOver_0 (by decide) ?_
  refine lv_istore_n (lv' := [(3, .int (nI 0)), (0, .ref b0), (1, .int (nI r)), (2, .int (nI o))]) hx hb dX0_takeOver_1 rfl hl (by decide) rfl (fun ls hl => ?_)
  have ec : nA Rr = nA (rwN r (fun k => Rr (o * 6 + k)) 0 Rr) := rwN_0 _ _ _
  rw [ec] at hP hD
  have hP : va_P (dC, dI) vwCl [(b0, .inr (0, [.ref h3, .ref hrs, .int (nI dr), .int (nI kn), .int (nI nx), .ref hpr, .ref hpd])), (h3, .inr (3, [.int (nI n), .int (nI h), .int (nI rg), .int (nI sp), .ref hk, .ref hw, .ref hs])), (hk, .inl (cI, 6, .inl kf)), (hw, .inl (cI, 6, .inl wf)), (hs, .inl (cI, 6, .inl sf)), (hrs, .inl (cI, 24, .inl (nA (rwN r (fun k => Rr (o * 6 + k)) 0 Rr)))), (hpr, .inl (cI, 192, .inl (nA Pr))), (hpd, .inl (cI, 8, .inl (nA Pd)))] s.heap := hP
  have hD : va_D A [(b0, .inr (0, [.ref h3, .ref hrs, .int (nI dr), .int (nI kn), .int (nI nx), .ref hpr, .ref hpd])), (h3, .inr (3, [.int (nI n), .int (nI h), .int (nI rg), .int (nI sp), .ref hk, .ref hw, .ref hs])), (hk, .inl (cI, 6, .inl kf)), (hw, .inl (cI, 6, .inl wf)), (hs, .inl (cI, 6, .inl sf)), (hrs, .inl (cI, 24, .inl (nA (rwN r (fun k => Rr (o * 6 + k)) 0 Rr)))), (hpr, .inl (cI, 192, .inl (nA Pr))), (hpd, .inl (cI, 8, .inl (nA Pd)))] := hD
  refine rlW1 (A1 := Nat) (fun H locs ls => W p l e _ s m _ below meth c H locs 0 0 _ (F0 m 2 ls [])) (fun k H locs ls => k ≤ n ∧ va_P (dC, dI) vwCl [(b0, .inr (0, [.ref h3, .ref hrs, .int (nI dr), .int (nI kn), .int (nI nx), .ref hpr, .ref hpd])), (h3, .inr (3, [.int (nI n), .int (nI h), .int (nI rg), .int (nI sp), .ref hk, .ref hw, .ref hs])), (hk, .inl (cI, 6, .inl kf)), (hw, .inl (cI, 6, .inl wf)), (hs, .inl (cI, 6, .inl sf)), (hrs, .inl (cI, 24, .inl (nA (rwN r (fun k => Rr (o * 6 + k)) k Rr)))), (hpr, .inl (cI, 192, .inl (nA Pr))), (hpd, .inl (cI, 8, .inl (nA Pd)))] H ∧ va_D A [(b0, .inr (0, [.ref h3, .ref hrs, .int (nI dr), .int (nI kn), .int (nI nx), .ref hpr, .ref hpd])), (h3, .inr (3, [.int (nI n), .int (nI h), .int (nI rg), .int (nI sp), .ref hk, .ref hw, .ref hs])), (hk, .inl (cI, 6, .inl kf)), (hw, .inl (cI, 6, .inl wf)), (hs, .inl (cI, 6, .inl sf)), (hrs, .inl (cI, 24, .inl (nA (rwN r (fun k => Rr (o * 6 + k)) k Rr)))), (hpr, .inl (cI, 192, .inl (nA Pr))), (hpd, .inl (cI, 8, .inl (nA Pd)))] ∧ va_S A s.heap H locs ∧ lv_has ls 4 [(3, .int (nI k)), (0, .ref b0), (1, .int (nI r)), (2, .int (nI o))]) (fun k => n - k) ?_ 0 _ _ ls ⟨by omega, hP, hD, hS, lv_sub hl [0, 1, 2, 3] rfl⟩
  rintro k H locs ls ⟨hi, hP, hD, hS, hl⟩ ih2
  refine lv_iload_n hx hb dX0_takeOver_2 rfl (lv_at hl 0 rfl) ?_
  refine lv_aload_n hx hb dX0_takeOver_3 rfl (lv_at hl 1 rfl) ?_
  refine va_get (D := (dC, dI)) (ci := 0) (v := .ref h3) (C := RX0) (T := TX0) (N := 7) hx hb hts hiX0 hown hK hP 0 rfl rfl 0 (by decide) (hts (.fieldLink RX0 12 "RestRegisters$Bank" "wheels" "LRestRegisters$Wheels;") (by decide +kernel)) (fun _ h9 => h9) rfl dX0_takeOver_4 ?_
  refine va_get (D := (dC, dI)) (ci := 3) (v := .int (nI n)) (C := RX3) (T := TX3) (N := 7) hx hb hts hiX3 hown hK hP 1 rfl rfl 0 (by decide) (hts (.fieldLink RX0 54 "RestRegisters$Wheels" "size" "I") (by decide +kernel)) (fun _ h9 => h9) rfl dX0_takeOver_7 ?_
  refine rn_icmp_ge (tgt := 31) hx hb dX0_takeOver_10 (by decide) (by omega) (by omega) (fun c10 => ?_) (fun c10 => ?_)
  · skip
    have ek : k = n := Nat.le_antisymm hi c10
    subst ek
    exact rr_vretW hx hb hr hlocks dX0_takeOver_31 hP hD hS
  refine lv_aload_n hx hb dX0_takeOver_13 rfl (lv_at hl 1 rfl) ?_
  refine lv_iload_n hx hb dX0_takeOver_14 rfl (lv_at hl 2 rfl) ?_
  refine lv_iload_n hx hb dX0_takeOver_15 rfl (lv_at hl 0 rfl) ?_
  refine lv_aload_n hx hb dX0_takeOver_16 rfl (lv_at hl 1 rfl) ?_
  refine lv_iload_n hx hb dX0_takeOver_17 rfl (lv_at hl 3 rfl) ?_
  refine lv_iload_n hx hb dX0_takeOver_18 rfl (lv_at hl 0 rfl) ?_
  refine rr_callR (va_runV (As := [.int (nI o), .int (nI k)]) (rest := [.int (nI k), .int (nI r), .ref b0]) ⟨hx, hb, hml, hown, hts⟩ (c_X0_shown l dC dI cI cJ cS b0 h3 hrs hpr hpd dr kn nx (rwN r (fun k => Rr (o * 6 + k)) k Rr) o k (by first | assumption | omega) (by first | assumption | omega)) (cwV 2 hts gX0_takeOver_X0_shown rfl rfl rfl (by decide +kernel) ⟨Nat.le_of_ble_eq_true rfl, Nat.le_of_ble_eq_true rfl⟩) (rr_preV hKK (hP.sub [0, 5] rfl) rfl rfl) rfl rfl hl.1 rfl (lv_room (Nat.le_of_ble_eq_true rfl)) dX0_takeOver_19 ⟨Nat.zero_le _, Nat.zero_le _⟩) ?_
  refine rn_top (y := Rr (o * 6 + k)) (rwN_at (by omega)) ?_
  refine rw_callv (va_runV (As := [.int (nI r), .int (nI k), .int (nI (Rr (o * 6 + k)))]) (rest := []) ⟨hx, hb, hml, hown, hts⟩ (c_X0_show l dC dI cI cJ cS _ b0 h3 hrs hpr hpd dr kn nx (rwN r (fun k => Rr (o * 6 + k)) k Rr) r k (Rr (o * 6 + k)) (by first | assumption | omega) (by first | assumption | omega)) (cwV 3 hts gX0_takeOver_X0_show rfl rfl rfl (by decide +kernel) ⟨Nat.le_of_ble_eq_true rfl, Nat.le_of_ble_eq_true rfl⟩) (rw_preV hKK (hP.sub [0, 5] rfl) (hD.sub [0, 5] (by decide) rfl) rfl rfl) rfl rfl hl.1 rfl (lv_room (Nat.le_of_ble_eq_true rfl)) dX0_takeOver_22 ⟨Nat.zero_le _, Nat.zero_le _⟩) (wr := [(h3, .inr (3, [.int (nI n), .int (nI h), .int (nI rg), .int (nI sp), .ref hk, .ref hw, .ref hs])), (hk, .inl (cI, 6, .inl kf)), (hw, .inl (cI, 6, .inl wf)), (hs, .inl (cI, 6, .inl sf)), (hpr, .inl (cI, 192, .inl (nA Pr))), (hpd, .inl (cI, 8, .inl (nA Pd)))]) hP hD hS hA [0, 5] [1, 2, 3, 4, 6, 7] rfl rfl (by decide) (by decide) (fun H locs hP hD hS => ?_)
  have hP : va_P (dC, dI) vwCl [(b0, .inr (0, [.ref h3, .ref hrs, .int (nI dr), .int (nI kn), .int (nI nx), .ref hpr, .ref hpd])), (h3, .inr (3, [.int (nI n), .int (nI h), .int (nI rg), .int (nI sp), .ref hk, .ref hw, .ref hs])), (hk, .inl (cI, 6, .inl kf)), (hw, .inl (cI, 6, .inl wf)), (hs, .inl (cI, 6, .inl sf)), (hrs, .inl (cI, 24, .inl (nA (uN (rwN r (fun k => Rr (o * 6 + k)) k Rr) (r * 6 + k) (Rr (o * 6 + k)))))), (hpr, .inl (cI, 192, .inl (nA Pr))), (hpd, .inl (cI, 8, .inl (nA Pd)))] H := hP.sub [6, 0, 1, 2, 3, 7, 4, 5] rfl
  have hD : va_D A [(b0, .inr (0, [.ref h3, .ref hrs, .int (nI dr), .int (nI kn), .int (nI nx), .ref hpr, .ref hpd])), (h3, .inr (3, [.int (nI n), .int (nI h), .int (nI rg), .int (nI sp), .ref hk, .ref hw, .ref hs])), (hk, .inl (cI, 6, .inl kf)), (hw, .inl (cI, 6, .inl wf)), (hs, .inl (cI, 6, .inl sf)), (hrs, .inl (cI, 24, .inl (nA (uN (rwN r (fun k => Rr (o * 6 + k)) k Rr) (r * 6 + k) (Rr (o * 6 + k)))))), (hpr, .inl (cI, 192, .inl (nA Pr))), (hpd, .inl (cI, 8, .inl (nA Pd)))] := hD.sub [6, 0, 1, 2, 3, 7, 4, 5] (by decide) rfl
  have ec : nA (uN (rwN r (fun k => Rr (o * 6 + k)) k Rr) (r * 6 + k) (Rr (o * 6 + k))) = nA (rwN r (fun k => Rr (o * 6 + k)) (k + 1) Rr) := rwN_s (rfl)
  rw [ec] at hP hD
  have hP : va_P (dC, dI) vwCl [(b0, .inr (0, [.ref h3, .ref hrs, .int (nI dr), .int (nI kn), .int (nI nx), .ref hpr, .ref hpd])), (h3, .inr (3, [.int (nI n), .int (nI h), .int (nI rg), .int (nI sp), .ref hk, .ref hw, .ref hs])), (hk, .inl (cI, 6, .inl kf)), (hw, .inl (cI, 6, .inl wf)), (hs, .inl (cI, 6, .inl sf)), (hrs, .inl (cI, 24, .inl (nA (rwN r (fun k => Rr (o * 6 + k)) (k + 1) Rr)))), (hpr, .inl (cI, 192, .inl (nA Pr))), (hpd, .inl (cI, 8, .inl (nA Pd)))] H := hP
  have hD : va_D A [(b0, .inr (0, [.ref h3, .ref hrs, .int (nI dr), .int (nI kn), .int (nI nx), .ref hpr, .ref hpd])), (h3, .inr (3, [.int (nI n), .int (nI h), .int (nI rg), .int (nI sp), .ref hk, .ref hw, .ref hs])), (hk, .inl (cI, 6, .inl kf)), (hw, .inl (cI, 6, .inl wf)), (hs, .inl (cI, 6, .inl sf)), (hrs, .inl (cI, 24, .inl (nA (rwN r (fun k => Rr (o * 6 + k)) (k + 1) Rr)))), (hpr, .inl (cI, 192, .inl (nA Pr))), (hpd, .inl (cI, 8, .inl (nA Pd)))] := hD
  refine lv_iinc (v := (nI (k + 1))) (lv' := [(3, .int (nI (k + 1))), (0, .ref b0), (1, .int (nI r)), (2, .int (nI o))]) hx hb dX0_takeOver_25 hl (k := 0) rfl (rn_inc k 1) (by decide) rfl (fun ls hl => ?_)
  refine lv_goto (tgt := 2) hx hb dX0_takeOver_28 (by decide) ?_
  exact ih2 (k + 1) _ _ ls ⟨by omega, hP, hD, hS, lv_sub hl [0, 1, 2, 3] rfl⟩ (by omega)
set_option maxHeartbeats 4000000 in
set_option maxRecDepth 100000 in
theorem c_X0_remember (l : Launch) (dC : Nat → ClassId) (dI : Nat → Nat → Nat) (cI cJ cS : ClassId) (sz : Nat) (b0 h3 hk hw hs hrs hpr hpd : Nat) (n h rg sp dr kn nx : Nat) (kf wf sf : Nat → Int32) (Kd Wd Sh Rr Pr Pd : Nat → Nat) (hnx : nx < 8) (hkn : kn ≤ 8) : Met l yX0_remember wsX0_remember ({ frames := 1, cells := 0, slots := 0, locals := 60 }) (va_Pc [.ref b0] (rW (dC, dI) vwCl [(b0, .inr (0, [.ref h3, .ref hrs, .int (nI dr), .int (nI kn), .int (nI nx), .ref hpr, .ref hpd])), (h3, .inr (3, [.int (nI n), .int (nI h), .int (nI rg), .int (nI sp), .ref hk, .ref hw, .ref hs])), (hk, .inl (cI, 6, .inl kf)), (hw, .inl (cI, 6, .inl wf)), (hs, .inl (cI, 6, .inl sf)), (hrs, .inl (cI, 24, .inl (nA Rr))), (hpr, .inl (cI, 192, .inl (nA Pr))), (hpd, .inl (cI, 8, .inl (nA Pd)))] (tyz cI cJ cS) sz)) (qV (dC, dI) vwCl [(b0, .inr (0, [.ref h3, .ref hrs, .int (nI dr), .int (nI (min (kn + 1) 8)), .int (nI ((nx + 1) % 8)), .ref hpr, .ref hpd])), (h3, .inr (3, [.int (nI n), .int (nI h), .int (nI rg), .int (nI sp), .ref hk, .ref hw, .ref hs])), (hk, .inl (cI, 6, .inl kf)), (hw, .inl (cI, 6, .inl wf)), (hs, .inl (cI, 6, .inl sf)), (hrs, .inl (cI, 24, .inl (nA Rr))), (hpr, .inl (cI, 192, .inl (nA (cpN Rr Pr 0 (nx * 24) 24)))), (hpd, .inl (cI, 8, .inl (nA (uN Pd nx dr))))] (va_A [(b0, .inr (0, [.ref h3, .ref hrs, .int (nI dr), .int (nI kn), .int (nI nx), .ref hpr, .ref hpd])), (h3, .inr (3, [.int (nI n), .int (nI h), .int (nI rg), .int (nI sp), .ref hk, .ref hw, .ref hs])), (hk, .inl (cI, 6, .inl kf)), (hw, .inl (cI, 6, .inl wf)), (hs, .inl (cI, 6, .inl sf)), (hrs, .inl (cI, 24, .inl (nA Rr))), (hpr, .inl (cI, 192, .inl (nA Pr))), (hpd, .inl (cI, 8, .inl (nA Pd)))] sz)) 0 0 (va_A [(b0, .inr (0, [.ref h3, .ref hrs, .int (nI dr), .int (nI kn), .int (nI nx), .ref hpr, .ref hpd])), (h3, .inr (3, [.int (nI n), .int (nI h), .int (nI rg), .int (nI sp), .ref hk, .ref hw, .ref hs])), (hk, .inl (cI, 6, .inl kf)), (hw, .inl (cI, 6, .inl wf)), (hs, .inl (cI, 6, .inl sf)), (hrs, .inl (cI, 24, .inl (nA Rr))), (hpr, .inl (cI, 192, .inl (nA Pr))), (hpd, .inl (cI, 8, .inl (nA Pd)))] sz) := by
  refine Met.ofW (cc := cX0_remember) (maxL := 1) (ret := none) (by decide) rfl ?_
  intro p e s m args below meth c s₁ B hml hv
  obtain ⟨rfl, hsz, hP, hKK, hD0⟩ := hv
  have hK := hKK.1
  have hx := B.exec
  have hb := B.bytes
  have hr := B.returns
  have hts := atoms_spec (ws := wsX0_remember) B.pre
  have hown : s.vm.findClass RX0 = some m.cls := findClass_of_methodNamed B.named
  have hlocks := B.notSynchronized
  subst hsz
  have hD := hD0.self (sz := s.heap.size)
  generalize hAe : va_A [(b0, .inr (0, [.ref h3, .ref hrs, .int (nI dr), .int (nI kn), .int (nI nx), .ref hpr, .ref hpd])), (h3, .inr (3, [.int (nI n), .int (nI h), .int (nI rg), .int (nI sp), .ref hk, .ref hw, .ref hs])), (hk, .inl (cI, 6, .inl kf)), (hw, .inl (cI, 6, .inl wf)), (hs, .inl (cI, 6, .inl sf)), (hrs, .inl (cI, 24, .inl (nA Rr))), (hpr, .inl (cI, 192, .inl (nA Pr))), (hpd, .inl (cI, 8, .inl (nA Pd)))] s.heap.size = A at hD ⊢
  have hA : ∀ q : Nat, s.heap.size ≤ q → A q := fun q h => by rw [← hAe]; exact Or.inr h
  have hS : va_S A s.heap s.heap [] := va_S.rf
  have hP : va_P (dC, dI) vwCl [(b0, .inr (0, [.ref h3, .ref hrs, .int (nI dr), .int (nI kn), .int (nI nx), .ref hpr, .ref hpd])), (h3, .inr (3, [.int (nI n), .int (nI h), .int (nI rg), .int (nI sp), .ref hk, .ref hw, .ref hs])), (hk, .inl (cI, 6, .inl kf)), (hw, .inl (cI, 6, .inl wf)), (hs, .inl (cI, 6, .inl sf)), (hrs, .inl (cI, 24, .inl (nA Rr))), (hpr, .inl (cI, 192, .inl (nA Pr))), (hpd, .inl (cI, 8, .inl (nA Pd)))] s.heap := hP
  have hiX0 : ∀ w ∈ wsX00, w ∈ wsX0_remember := by decide +kernel
  have hl := lv_entry ([.ref b0]) (n := 1) (Nat.le_of_ble_eq_true rfl)
  rw [lg_entry_eq]
  generalize (lg_sl ([.ref b0]) ++ List.replicate (1 - (lg_sl ([.ref b0])).length) Slot.unset).toArray = ls at hl ⊢
  have hl : lv_has ls 1 [(0, .ref b0)] := hl
  refine lv_aload_n hx hb dX0_remember_0 rfl (lv_at hl 0 rfl) ?_
  refine va_get (D := (dC, dI)) (ci := 0) (v := .ref hrs) (C := RX0) (T := TX0) (N := 7) hx hb hts hiX0 hown hK hP 0 rfl rfl 1 (by decide) (hts (.fieldLink RX0 18 "RestRegisters$Bank" "rests" "[I") (by decide +kernel)) (fun _ h9 => h9) rfl dX0_remember_1 ?_
  refine lv_iconst (v := (nI 0)) hx hb dX0_remember_4 (by decide) ?_
  refine lv_aload_n hx hb dX0_remember_5 rfl (lv_at hl 0 rfl) ?_
  refine va_get (D := (dC, dI)) (ci := 0) (v := .ref hpr) (C := RX0) (T := TX0) (N := 7) hx hb hts hiX0 hown hK hP 0 rfl rfl 5 (by decide) (hts (.fieldLink RX0 26 "RestRegisters$Bank" "pastRests" "[I") (by decide +kernel)) (fun _ h9 => h9) rfl dX0_remember_6 ?_
  refine lv_aload_n hx hb dX0_remember_9 rfl (lv_at hl 0 rfl) ?_
  refine va_get (D := (dC, dI)) (ci := 0) (v := .int (nI nx)) (C := RX0) (T := TX0) (N := 7) hx hb hts hiX0 hown hK hP 0 rfl rfl 4 (by decide) (hts (.fieldLink RX0 39 "RestRegisters$Bank" "next" "I") (by decide +kernel)) (fun _ h9 => h9) rfl dX0_remember_10 ?_
  refine lv_bipush (v := (nI 24)) hx hb dX0_remember_13 (by decide) ?_
  refine rn_imul hx hb dX0_remember_15 ?_
  refine lv_bipush (v := (nI 24)) hx hb dX0_remember_16 (by decide) ?_
  refine rn_copyi hx hb (hml.trans hl.1.symm) hown (hts (.methodLink RX0 42 arraycopyName) (by decide +kernel)) (hts (.native arraycopyName) (by decide +kernel)) (hts (.static arraycopyName) (by decide +kernel)) (hts (.initialized "java/lang/System") (by decide +kernel)) hK hP hD hS 5 6 0 0 rfl rfl rfl rfl rfl (sp := 0) (dp := nx * 24) (n := 24) (by omega) (by omega) (by decide) (by decide) (fun _ _ => rfl) (Nat.le_of_ble_eq_true rfl) (Nat.le_of_ble_eq_true rfl) dX0_remember_18 (fun H locs hP hD hS => ?_)
  have hP : va_P (dC, dI) vwCl [(b0, .inr (0, [.ref h3, .ref hrs, .int (nI dr), .int (nI kn), .int (nI nx), .ref hpr, .ref hpd])), (h3, .inr (3, [.int (nI n), .int (nI h), .int (nI rg), .int (nI sp), .ref hk, .ref hw, .ref hs])), (hk, .inl (cI, 6, .inl kf)), (hw, .inl (cI, 6, .inl wf)), (hs, .inl (cI, 6, .inl sf)), (hrs, .inl (cI, 24, .inl (nA Rr))), (hpr, .inl (cI, 192, .inl (va_cpy (nA Rr) (nA Pr) 0 (nx * 24) 24))), (hpd, .inl (cI, 8, .inl (nA Pd)))] H := hP
  have hD : va_D A [(b0, .inr (0, [.ref h3, .ref hrs, .int (nI dr), .int (nI kn), .int (nI nx), .ref hpr, .ref hpd])), (h3, .inr (3, [.int (nI n), .int (nI h), .int (nI rg), .int (nI sp), .ref hk, .ref hw, .ref hs])), (hk, .inl (cI, 6, .inl kf)), (hw, .inl (cI, 6, .inl wf)), (hs, .inl (cI, 6, .inl sf)), (hrs, .inl (cI, 24, .inl (nA Rr))), (hpr, .inl (cI, 192, .inl (va_cpy (nA Rr) (nA Pr) 0 (nx * 24) 24))), (hpd, .inl (cI, 8, .inl (nA Pd)))] := hD
  have ec : va_cpy (nA Rr) (nA Pr) 0 (nx * 24) 24 = nA (cpN Rr Pr 0 (nx * 24) 24) := nA_cpy _ _ _ _ _
  rw [ec] at hP hD
  have hP : va_P (dC, dI) vwCl [(b0, .inr (0, [.ref h3, .ref hrs, .int (nI dr), .int (nI kn), .int (nI nx), .ref hpr, .ref hpd])), (h3, .inr (3, [.int (nI n), .int (nI h), .int (nI rg), .int (nI sp), .ref hk, .ref hw, .ref hs])), (hk, .inl (cI, 6, .inl kf)), (hw, .inl (cI, 6, .inl wf)), (hs, .inl (cI, 6, .inl sf)), (hrs, .inl (cI, 24, .inl (nA Rr))), (hpr, .inl (cI, 192, .inl (nA (cpN Rr Pr 0 (nx * 24) 24)))), (hpd, .inl (cI, 8, .inl (nA Pd)))] H := hP
  have hD : va_D A [(b0, .inr (0, [.ref h3, .ref hrs, .int (nI dr), .int (nI kn), .int (nI nx), .ref hpr, .ref hpd])), (h3, .inr (3, [.int (nI n), .int (nI h), .int (nI rg), .int (nI sp), .ref hk, .ref hw, .ref hs])), (hk, .inl (cI, 6, .inl kf)), (hw, .inl (cI, 6, .inl wf)), (hs, .inl (cI, 6, .inl sf)), (hrs, .inl (cI, 24, .inl (nA Rr))), (hpr, .inl (cI, 192, .inl (nA (cpN Rr Pr 0 (nx * 24) 24)))), (hpd, .inl (cI, 8, .inl (nA Pd)))] := hD
  refine lv_aload_n hx hb dX0_remember_21 rfl (lv_at hl 0 rfl) ?_
  refine va_get (D := (dC, dI)) (ci := 0) (v := .ref hpd) (C := RX0) (T := TX0) (N := 7) hx hb hts hiX0 hown hK hP 0 rfl rfl 6 (by decide) (hts (.fieldLink RX0 29 "RestRegisters$Bank" "pastDraws" "[I") (by decide +kernel)) (fun _ h9 => h9) rfl dX0_remember_22 ?_
  refine lv_aload_n hx hb dX0_remember_25 rfl (lv_at hl 0 rfl) ?_
  refine va_get (D := (dC, dI)) (ci := 0) (v := .int (nI nx)) (C := RX0) (T := TX0) (N := 7) hx hb hts hiX0 hown hK hP 0 rfl rfl 4 (by decide) (hts (.fieldLink RX0 39 "RestRegisters$Bank" "next" "I") (by decide +kernel)) (fun _ h9 => h9) rfl dX0_remember_26 ?_
  refine lv_aload_n hx hb dX0_remember_29 rfl (lv_at hl 0 rfl) ?_
  refine va_get (D := (dC, dI)) (ci := 0) (v := .int (nI dr)) (C := RX0) (T := TX0) (N := 7) hx hb hts hiX0 hown hK hP 0 rfl rfl 2 (by decide) (hts (.fieldLink RX0 22 "RestRegisters$Bank" "draw" "I") (by decide +kernel)) (fun _ h9 => h9) rfl dX0_remember_30 ?_
  refine rn_iast hx hb hK hP hD hS 7 0 rfl rfl (i := nx) (by omega) (by decide) (g := nA (uN Pd nx dr)) (nA_upd _ _ _) dX0_remember_33 (fun H locs hP hD hS => ?_)
  have hP : va_P (dC, dI) vwCl [(b0, .inr (0, [.ref h3, .ref hrs, .int (nI dr), .int (nI kn), .int (nI nx), .ref hpr, .ref hpd])), (h3, .inr (3, [.int (nI n), .int (nI h), .int (nI rg), .int (nI sp), .ref hk, .ref hw, .ref hs])), (hk, .inl (cI, 6, .inl kf)), (hw, .inl (cI, 6, .inl wf)), (hs, .inl (cI, 6, .inl sf)), (hrs, .inl (cI, 24, .inl (nA Rr))), (hpr, .inl (cI, 192, .inl (nA (cpN Rr Pr 0 (nx * 24) 24)))), (hpd, .inl (cI, 8, .inl (nA (uN Pd nx dr))))] H := hP
  have hD : va_D A [(b0, .inr (0, [.ref h3, .ref hrs, .int (nI dr), .int (nI kn), .int (nI nx), .ref hpr, .ref hpd])), (h3, .inr (3, [.int (nI n), .int (nI h), .int (nI rg), .int (nI sp), .ref hk, .ref hw, .ref hs])), (hk, .inl (cI, 6, .inl kf)), (hw, .inl (cI, 6, .inl wf)), (hs, .inl (cI, 6, .inl sf)), (hrs, .inl (cI, 24, .inl (nA Rr))), (hpr, .inl (cI, 192, .inl (nA (cpN Rr Pr 0 (nx * 24) 24)))), (hpd, .inl (cI, 8, .inl (nA (uN Pd nx dr))))] := hD
  refine lv_aload_n hx hb dX0_remember_34 rfl (lv_at hl 0 rfl) ?_
  refine lv_aload_n hx hb dX0_remember_35 rfl (lv_at hl 0 rfl) ?_
  refine va_get (D := (dC, dI)) (ci := 0) (v := .int (nI nx)) (C := RX0) (T := TX0) (N := 7) hx hb hts hiX0 hown hK hP 0 rfl rfl 4 (by decide) (hts (.fieldLink RX0 39 "RestRegisters$Bank" "next" "I") (by decide +kernel)) (fun _ h9 => h9) rfl dX0_remember_36 ?_
  refine lv_iconst (v := (nI 1)) hx hb dX0_remember_39 (by decide) ?_
  refine rn_iadd hx hb dX0_remember_40 ?_
  refine lv_bipush (v := (nI 8)) hx hb dX0_remember_41 (by decide) ?_
  refine rn_irem hx hb dX0_remember_43 (by omega) (by omega) (by omega) ?_
  refine va_put (D := (dC, dI)) (ci := 0) (v := .int (nI ((nx + 1) % 8))) (ty := .int) (C := RX0) (T := TX0) (N := 7) hx hb hts hiX0 tyX0 tyX0_ok nmX0 hown hK hP hD hS 0 rfl rfl 4 (by decide) (hts (.fieldLink RX0 39 "RestRegisters$Bank" "next" "I") (by decide +kernel)) (fun _ h9 => h9) rfl (by decide +kernel) rfl rfl (Nat.le_of_ble_eq_true rfl) dX0_remember_44 (fun H locs hP hD hS => ?_)
  have hP : va_P (dC, dI) vwCl [(b0, .inr (0, [.ref h3, .ref hrs, .int (nI dr), .int (nI kn), .int (nI ((nx + 1) % 8)), .ref hpr, .ref hpd])), (h3, .inr (3, [.int (nI n), .int (nI h), .int (nI rg), .int (nI sp), .ref hk, .ref hw, .ref hs])), (hk, .inl (cI, 6, .inl kf)), (hw, .inl (cI, 6, .inl wf)), (hs, .inl (cI, 6, .inl sf)), (hrs, .inl (cI, 24, .inl (nA Rr))), (hpr, .inl (cI, 192, .inl (nA (cpN Rr Pr 0 (nx * 24) 24)))), (hpd, .inl (cI, 8, .inl (nA (uN Pd nx dr))))] H := hP
  have hD : va_D A [(b0, .inr (0, [.ref h3, .ref hrs, .int (nI dr), .int (nI kn), .int (nI ((nx + 1) % 8)), .ref hpr, .ref hpd])), (h3, .inr (3, [.int (nI n), .int (nI h), .int (nI rg), .int (nI sp), .ref hk, .ref hw, .ref hs])), (hk, .inl (cI, 6, .inl kf)), (hw, .inl (cI, 6, .inl wf)), (hs, .inl (cI, 6, .inl sf)), (hrs, .inl (cI, 24, .inl (nA Rr))), (hpr, .inl (cI, 192, .inl (nA (cpN Rr Pr 0 (nx * 24) 24)))), (hpd, .inl (cI, 8, .inl (nA (uN Pd nx dr))))] := hD
  refine lv_aload_n hx hb dX0_remember_47 rfl (lv_at hl 0 rfl) ?_
  refine lv_aload_n hx hb dX0_remember_48 rfl (lv_at hl 0 rfl) ?_
  refine va_get (D := (dC, dI)) (ci := 0) (v := .int (nI kn)) (C := RX0) (T := TX0) (N := 7) hx hb hts hiX0 hown hK hP 0 rfl rfl 3 (by decide) (hts (.fieldLink RX0 36 "RestRegisters$Bank" "known" "I") (by decide +kernel)) (fun _ h9 => h9) rfl dX0_remember_49 ?_
  refine lv_iconst (v := (nI 1)) hx hb dX0_remember_52 (by decide) ?_
  refine rn_iadd hx hb dX0_remember_53 ?_
  refine lv_bipush (v := (nI 8)) hx hb dX0_remember_54 (by decide) ?_
  refine va_mmin hx hb (hml.trans hl.1.symm) hown (hts (.methodLink RX0 48 Lib.Math.min.name) (by decide +kernel)) (hts (.static Lib.Math.min.name) (by decide +kernel)) (hts (.initialized "java/lang/Math") (by decide +kernel)) (hts (.code Lib.Math.min.name Lib.Math.min.code 2 (some .int)) (by decide +kernel)) (Nat.le_of_ble_eq_true rfl) (Nat.le_of_ble_eq_true rfl) (Nat.zero_le _) (Nat.zero_le _) dX0_remember_56 ?_
  refine rr_top (y := (nI (min (kn + 1) 8))) (rn_min (by omega) (by omega)) ?_
  refine va_put (D := (dC, dI)) (ci := 0) (v := .int (nI (min (kn + 1) 8))) (ty := .int) (C := RX0) (T := TX0) (N := 7) hx hb hts hiX0 tyX0 tyX0_ok nmX0 hown hK hP hD hS 0 rfl rfl 3 (by decide) (hts (.fieldLink RX0 36 "RestRegisters$Bank" "known" "I") (by decide +kernel)) (fun _ h9 => h9) rfl (by decide +kernel) rfl rfl (Nat.le_of_ble_eq_true rfl) dX0_remember_59 (fun H locs hP hD hS => ?_)
  have hP : va_P (dC, dI) vwCl [(b0, .inr (0, [.ref h3, .ref hrs, .int (nI dr), .int (nI (min (kn + 1) 8)), .int (nI ((nx + 1) % 8)), .ref hpr, .ref hpd])), (h3, .inr (3, [.int (nI n), .int (nI h), .int (nI rg), .int (nI sp), .ref hk, .ref hw, .ref hs])), (hk, .inl (cI, 6, .inl kf)), (hw, .inl (cI, 6, .inl wf)), (hs, .inl (cI, 6, .inl sf)), (hrs, .inl (cI, 24, .inl (nA Rr))), (hpr, .inl (cI, 192, .inl (nA (cpN Rr Pr 0 (nx * 24) 24)))), (hpd, .inl (cI, 8, .inl (nA (uN Pd nx dr))))] H := hP
  have hD : va_D A [(b0, .inr (0, [.ref h3, .ref hrs, .int (nI dr), .int (nI (min (kn + 1) 8)), .int (nI ((nx + 1) % 8)), .ref hpr, .ref hpd])), (h3, .inr (3, [.int (nI n), .int (nI h), .int (nI rg), .int (nI sp), .ref hk, .ref hw, .ref hs])), (hk, .inl (cI, 6, .inl kf)), (hw, .inl (cI, 6, .inl wf)), (hs, .inl (cI, 6, .inl sf)), (hrs, .inl (cI, 24, .inl (nA Rr))), (hpr, .inl (cI, 192, .inl (nA (cpN Rr Pr 0 (nx * 24) 24)))), (hpd, .inl (cI, 8, .inl (nA (uN Pd nx dr))))] := hD
  exact rr_vretW hx hb hr hlocks dX0_remember_62 hP hD hS
set_option maxHeartbeats 4000000 in
set_option maxRecDepth 100000 in
theorem c_X0_goBack_0 (l : Launch) (dC : Nat → ClassId) (dI : Nat → Nat → Nat) (cI cJ cS : ClassId) (b0 h3 hk hw hs hrs hpr hpd : Nat) (n h rg sp dr kn nx : Nat) (kf wf sf : Nat → Int32) (Kd Wd Sh Rr Pr Pd : Nat → Nat) (hkn : kn = 0) : Met l yX0_goBack wsX0_goBack ({ frames := 1, cells := 0, slots := 0, locals := 60 }) (va_Pc [.ref b0] (rB (dC, dI) vwCl [(b0, .inr (0, [.ref h3, .ref hrs, .int (nI dr), .int (nI kn), .int (nI nx), .ref hpr, .ref hpd])), (h3, .inr (3, [.int (nI n), .int (nI h), .int (nI rg), .int (nI sp), .ref hk, .ref hw, .ref hs])), (hk, .inl (cI, 6, .inl kf)), (hw, .inl (cI, 6, .inl wf)), (hs, .inl (cI, 6, .inl sf)), (hrs, .inl (cI, 24, .inl (nA Rr))), (hpr, .inl (cI, 192, .inl (nA Pr))), (hpd, .inl (cI, 8, .inl (nA Pd)))] (tyz cI cJ cS))) (QcRead (bi false)) 0 0 (fun _ => False) := by
  refine Met.ofW (cc := cX0_goBack) (maxL := 1) (ret := (some .boolean)) (by decide) rfl ?_
  intro p e s m args below meth c s₁ B hml hv
  obtain ⟨rfl, hP, hKK⟩ := hv
  have hK := hKK.1
  have hx := B.exec
  have hb := B.bytes
  have hr := B.returns
  have hts := atoms_spec (ws := wsX0_goBack) B.pre
  have hown : s.vm.findClass RX0 = some m.cls := findClass_of_methodNamed B.named
  have hlocks := B.notSynchronized
  have hiX0 : ∀ w ∈ wsX00, w ∈ wsX0_goBack := by decide +kernel
  have hl := lv_entry ([.ref b0]) (n := 1) (Nat.le_of_ble_eq_true rfl)
  rw [lg_entry_eq]
  generalize (lg_sl ([.ref b0]) ++ List.replicate (1 - (lg_sl ([.ref b0])).length) Slot.unset).toArray = ls at hl ⊢
  have hl : lv_has ls 1 [(0, .ref b0)] := hl
  refine lv_aload_n hx hb dX0_goBack_0 rfl (lv_at hl 0 rfl) ?_
  refine va_get (D := (dC, dI)) (ci := 0) (v := .int (nI kn)) (C := RX0) (T := TX0) (N := 7) hx hb hts hiX0 hown hK hP 0 rfl rfl 3 (by decide) (hts (.fieldLink RX0 36 "RestRegisters$Bank" "known" "I") (by decide +kernel)) (fun _ h9 => h9) rfl dX0_goBack_1 ?_
  refine rn_if_ne (tgt := 9) hx hb dX0_goBack_4 (by decide) (by omega) (fun c4 => ?_) (fun c4 => ?_)
  · skip
    exact absurd hkn c4
  refine lv_iconst (v := (nI 0)) hx hb dX0_goBack_7 (by decide) ?_
  refine rr_top (y := bi false) rfl ?_
  exact rr_zret hx hb hr hlocks dX0_goBack_8 (rfl)
set_option maxHeartbeats 4000000 in
set_option maxRecDepth 100000 in
theorem c_X0_goBack_1 (l : Launch) (dC : Nat → ClassId) (dI : Nat → Nat → Nat) (cI cJ cS : ClassId) (sz : Nat) (b0 h3 hk hw hs hrs hpr hpd : Nat) (n h rg sp dr kn nx : Nat) (kf wf sf : Nat → Int32) (Kd Wd Sh Rr Pr Pd : Nat → Nat) (hkn : 0 < kn) (hkn8 : kn ≤ 8) (hnx : nx < 8) : Met l yX0_goBack wsX0_goBack ({ frames := 1, cells := 0, slots := 0, locals := 60 }) (va_Pc [.ref b0] (rW (dC, dI) vwCl [(b0, .inr (0, [.ref h3, .ref hrs, .int (nI dr), .int (nI kn), .int (nI nx), .ref hpr, .ref hpd])), (h3, .inr (3, [.int (nI n), .int (nI h), .int (nI rg), .int (nI sp), .ref hk, .ref hw, .ref hs])), (hk, .inl (cI, 6, .inl kf)), (hw, .inl (cI, 6, .inl wf)), (hs, .inl (cI, 6, .inl sf)), (hrs, .inl (cI, 24, .inl (nA Rr))), (hpr, .inl (cI, 192, .inl (nA Pr))), (hpd, .inl (cI, 8, .inl (nA Pd)))] (tyz cI cJ cS) sz)) (qI (bi true) (dC, dI) vwCl [(b0, .inr (0, [.ref h3, .ref hrs, .int (nI (Pd ((nx + 8 - 1) % 8))), .int (nI (kn - 1)), .int (nI ((nx + 8 - 1) % 8)), .ref hpr, .ref hpd])), (h3, .inr (3, [.int (nI n), .int (nI h), .int (nI rg), .int (nI sp), .ref hk, .ref hw, .ref hs])), (hk, .inl (cI, 6, .inl kf)), (hw, .inl (cI, 6, .inl wf)), (hs, .inl (cI, 6, .inl sf)), (hrs, .inl (cI, 24, .inl (nA (cpN Pr Rr ((nx + 8 - 1) % 8 * 24) 0 24)))), (hpr, .inl (cI, 192, .inl (nA Pr))), (hpd, .inl (cI, 8, .inl (nA Pd)))] (va_A [(b0, .inr (0, [.ref h3, .ref hrs, .int (nI dr), .int (nI kn), .int (nI nx), .ref hpr, .ref hpd])), (h3, .inr (3, [.int (nI n), .int (nI h), .int (nI rg), .int (nI sp), .ref hk, .ref hw, .ref hs])), (hk, .inl (cI, 6, .inl kf)), (hw, .inl (cI, 6, .inl wf)), (hs, .inl (cI, 6, .inl sf)), (hrs, .inl (cI, 24, .inl (nA Rr))), (hpr, .inl (cI, 192, .inl (nA Pr))), (hpd, .inl (cI, 8, .inl (nA Pd)))] sz)) 0 0 (va_A [(b0, .inr (0, [.ref h3, .ref hrs, .int (nI dr), .int (nI kn), .int (nI nx), .ref hpr, .ref hpd])), (h3, .inr (3, [.int (nI n), .int (nI h), .int (nI rg), .int (nI sp), .ref hk, .ref hw, .ref hs])), (hk, .inl (cI, 6, .inl kf)), (hw, .inl (cI, 6, .inl wf)), (hs, .inl (cI, 6, .inl sf)), (hrs, .inl (cI, 24, .inl (nA Rr))), (hpr, .inl (cI, 192, .inl (nA Pr))), (hpd, .inl (cI, 8, .inl (nA Pd)))] sz) := by
  refine Met.ofW (cc := cX0_goBack) (maxL := 1) (ret := (some .boolean)) (by decide) rfl ?_
  intro p e s m args below meth c s₁ B hml hv
  obtain ⟨rfl, hsz, hP, hKK, hD0⟩ := hv
  have hK := hKK.1
  have hx := B.exec
  have hb := B.bytes
  have hr := B.returns
  have hts := atoms_spec (ws := wsX0_goBack) B.pre
  have hown : s.vm.findClass RX0 = some m.cls := findClass_of_methodNamed B.named
  have hlocks := B.notSynchronized
  subst hsz
  have hD := hD0.self (sz := s.heap.size)
  generalize hAe : va_A [(b0, .inr (0, [.ref h3, .ref hrs, .int (nI dr), .int (nI kn), .int (nI nx), .ref hpr, .ref hpd])), (h3, .inr (3, [.int (nI n), .int (nI h), .int (nI rg), .int (nI sp), .ref hk, .ref hw, .ref hs])), (hk, .inl (cI, 6, .inl kf)), (hw, .inl (cI, 6, .inl wf)), (hs, .inl (cI, 6, .inl sf)), (hrs, .inl (cI, 24, .inl (nA Rr))), (hpr, .inl (cI, 192, .inl (nA Pr))), (hpd, .inl (cI, 8, .inl (nA Pd)))] s.heap.size = A at hD ⊢
  have hA : ∀ q : Nat, s.heap.size ≤ q → A q := fun q h => by rw [← hAe]; exact Or.inr h
  have hS : va_S A s.heap s.heap [] := va_S.rf
  have hP : va_P (dC, dI) vwCl [(b0, .inr (0, [.ref h3, .ref hrs, .int (nI dr), .int (nI kn), .int (nI nx), .ref hpr, .ref hpd])), (h3, .inr (3, [.int (nI n), .int (nI h), .int (nI rg), .int (nI sp), .ref hk, .ref hw, .ref hs])), (hk, .inl (cI, 6, .inl kf)), (hw, .inl (cI, 6, .inl wf)), (hs, .inl (cI, 6, .inl sf)), (hrs, .inl (cI, 24, .inl (nA Rr))), (hpr, .inl (cI, 192, .inl (nA Pr))), (hpd, .inl (cI, 8, .inl (nA Pd)))] s.heap := hP
  have hiX0 : ∀ w ∈ wsX00, w ∈ wsX0_goBack := by decide +kernel
  have hl := lv_entry ([.ref b0]) (n := 1) (Nat.le_of_ble_eq_true rfl)
  rw [lg_entry_eq]
  generalize (lg_sl ([.ref b0]) ++ List.replicate (1 - (lg_sl ([.ref b0])).length) Slot.unset).toArray = ls at hl ⊢
  have hl : lv_has ls 1 [(0, .ref b0)] := hl
  refine lv_aload_n hx hb dX0_goBack_0 rfl (lv_at hl 0 rfl) ?_
  refine va_get (D := (dC, dI)) (ci := 0) (v := .int (nI kn)) (C := RX0) (T := TX0) (N := 7) hx hb hts hiX0 hown hK hP 0 rfl rfl 3 (by decide) (hts (.fieldLink RX0 36 "RestRegisters$Bank" "known" "I") (by decide +kernel)) (fun _ h9 => h9) rfl dX0_goBack_1 ?_
  refine rn_if_ne (tgt := 9) hx hb dX0_goBack_4 (by decide) (by omega) (fun c4 => ?_) (fun c4 => ?_)
  · skip
    refine lv_aload_n hx hb dX0_goBack_9 rfl (lv_at hl 0 rfl) ?_
    refine lv_dup hx hb dX0_goBack_10 rfl ?_
    refine va_get (D := (dC, dI)) (ci := 0) (v := .int (nI kn)) (C := RX0) (T := TX0) (N := 7) hx hb hts hiX0 hown hK hP 0 rfl rfl 3 (by decide) (hts (.fieldLink RX0 36 "RestRegisters$Bank" "known" "I") (by decide +kernel)) (fun _ h9 => h9) rfl dX0_goBack_11 ?_
    refine lv_iconst (v := (nI 1)) hx hb dX0_goBack_14 (by decide) ?_
    refine rn_isub hx hb dX0_goBack_15 (by omega) ?_
    refine va_put (D := (dC, dI)) (ci := 0) (v := .int (nI (kn - 1))) (ty := .int) (C := RX0) (T := TX0) (N := 7) hx hb hts hiX0 tyX0 tyX0_ok nmX0 hown hK hP hD hS 0 rfl rfl 3 (by decide) (hts (.fieldLink RX0 36 "RestRegisters$Bank" "known" "I") (by decide +kernel)) (fun _ h9 => h9) rfl (by decide +kernel) rfl rfl (Nat.le_of_ble_eq_true rfl) dX0_goBack_16 (fun H locs hP hD hS => ?_)
    have hP : va_P (dC, dI) vwCl [(b0, .inr (0, [.ref h3, .ref hrs, .int (nI dr), .int (nI (kn - 1)), .int (nI nx), .ref hpr, .ref hpd])), (h3, .inr (3, [.int (nI n), .int (nI h), .int (nI rg), .int (nI sp), .ref hk, .ref hw, .ref hs])), (hk, .inl (cI, 6, .inl kf)), (hw, .inl (cI, 6, .inl wf)), (hs, .inl (cI, 6, .inl sf)), (hrs, .inl (cI, 24, .inl (nA Rr))), (hpr, .inl (cI, 192, .inl (nA Pr))), (hpd, .inl (cI, 8, .inl (nA Pd)))] H := hP
    have hD : va_D A [(b0, .inr (0, [.ref h3, .ref hrs, .int (nI dr), .int (nI (kn - 1)), .int (nI nx), .ref hpr, .ref hpd])), (h3, .inr (3, [.int (nI n), .int (nI h), .int (nI rg), .int (nI sp), .ref hk, .ref hw, .ref hs])), (hk, .inl (cI, 6, .inl kf)), (hw, .inl (cI, 6, .inl wf)), (hs, .inl (cI, 6, .inl sf)), (hrs, .inl (cI, 24, .inl (nA Rr))), (hpr, .inl (cI, 192, .inl (nA Pr))), (hpd, .inl (cI, 8, .inl (nA Pd)))] := hD
    refine lv_aload_n hx hb dX0_goBack_19 rfl (lv_at hl 0 rfl) ?_
    refine lv_aload_n hx hb dX0_goBack_20 rfl (lv_at hl 0 rfl) ?_
    refine va_get (D := (dC, dI)) (ci := 0) (v := .int (nI nx)) (C := RX0) (T := TX0) (N := 7) hx hb hts hiX0 hown hK hP 0 rfl rfl 4 (by decide) (hts (.fieldLink RX0 39 "RestRegisters$Bank" "next" "I") (by decide +kernel)) (fun _ h9 => h9) rfl dX0_goBack_21 ?_
    refine lv_bipush (v := (nI 8)) hx hb dX0_goBack_24 (by decide) ?_
    refine rn_iadd hx hb dX0_goBack_26 ?_
    refine lv_iconst (v := (nI 1)) hx hb dX0_goBack_27 (by decide) ?_
    refine rn_isub hx hb dX0_goBack_28 (by omega) ?_
    refine lv_bipush (v := (nI 8)) hx hb dX0_goBack_29 (by decide) ?_
    refine rn_irem hx hb dX0_goBack_31 (by omega) (by omega) (by omega) ?_
    refine va_put (D := (dC, dI)) (ci := 0) (v := .int (nI ((nx + 8 - 1) % 8))) (ty := .int) (C := RX0) (T := TX0) (N := 7) hx hb hts hiX0 tyX0 tyX0_ok nmX0 hown hK hP hD hS 0 rfl rfl 4 (by decide) (hts (.fieldLink RX0 39 "RestRegisters$Bank" "next" "I") (by decide +kernel)) (fun _ h9 => h9) rfl (by decide +kernel) rfl rfl (Nat.le_of_ble_eq_true rfl) dX0_goBack_32 (fun H locs hP hD hS => ?_)
    have hP : va_P (dC, dI) vwCl [(b0, .inr (0, [.ref h3, .ref hrs, .int (nI dr), .int (nI (kn - 1)), .int (nI ((nx + 8 - 1) % 8)), .ref hpr, .ref hpd])), (h3, .inr (3, [.int (nI n), .int (nI h), .int (nI rg), .int (nI sp), .ref hk, .ref hw, .ref hs])), (hk, .inl (cI, 6, .inl kf)), (hw, .inl (cI, 6, .inl wf)), (hs, .inl (cI, 6, .inl sf)), (hrs, .inl (cI, 24, .inl (nA Rr))), (hpr, .inl (cI, 192, .inl (nA Pr))), (hpd, .inl (cI, 8, .inl (nA Pd)))] H := hP
    have hD : va_D A [(b0, .inr (0, [.ref h3, .ref hrs, .int (nI dr), .int (nI (kn - 1)), .int (nI ((nx + 8 - 1) % 8)), .ref hpr, .ref hpd])), (h3, .inr (3, [.int (nI n), .int (nI h), .int (nI rg), .int (nI sp), .ref hk, .ref hw, .ref hs])), (hk, .inl (cI, 6, .inl kf)), (hw, .inl (cI, 6, .inl wf)), (hs, .inl (cI, 6, .inl sf)), (hrs, .inl (cI, 24, .inl (nA Rr))), (hpr, .inl (cI, 192, .inl (nA Pr))), (hpd, .inl (cI, 8, .inl (nA Pd)))] := hD
    refine lv_aload_n hx hb dX0_goBack_35 rfl (lv_at hl 0 rfl) ?_
    refine va_get (D := (dC, dI)) (ci := 0) (v := .ref hpr) (C := RX0) (T := TX0) (N := 7) hx hb hts hiX0 hown hK hP 0 rfl rfl 5 (by decide) (hts (.fieldLink RX0 26 "RestRegisters$Bank" "pastRests" "[I") (by decide +kernel)) (fun _ h9 => h9) rfl dX0_goBack_36 ?_
    refine lv_aload_n hx hb dX0_goBack_39 rfl (lv_at hl 0 rfl) ?_
    refine va_get (D := (dC, dI)) (ci := 0) (v := .int (nI ((nx + 8 - 1) % 8))) (C := RX0) (T := TX0) (N := 7) hx hb hts hiX0 hown hK hP 0 rfl rfl 4 (by decide) (hts (.fieldLink RX0 39 "RestRegisters$Bank" "next" "I") (by decide +kernel)) (fun _ h9 => h9) rfl dX0_goBack_40 ?_
    refine lv_bipush (v := (nI 24)) hx hb dX0_goBack_43 (by decide) ?_
    refine rn_imul hx hb dX0_goBack_45 ?_
    refine lv_aload_n hx hb dX0_goBack_46 rfl (lv_at hl 0 rfl) ?_
    refine va_get (D := (dC, dI)) (ci := 0) (v := .ref hrs) (C := RX0) (T := TX0) (N := 7) hx hb hts hiX0 hown hK hP 0 rfl rfl 1 (by decide) (hts (.fieldLink RX0 18 "RestRegisters$Bank" "rests" "[I") (by decide +kernel)) (fun _ h9 => h9) rfl dX0_goBack_47 ?_
    refine lv_iconst (v := (nI 0)) hx hb dX0_goBack_50 (by decide) ?_
    refine lv_bipush (v := (nI 24)) hx hb dX0_goBack_51 (by decide) ?_
    refine rn_copyi hx hb (hml.trans hl.1.symm) hown (hts (.methodLink RX0 42 arraycopyName) (by decide +kernel)) (hts (.native arraycopyName) (by decide +kernel)) (hts (.static arraycopyName) (by decide +kernel)) (hts (.initialized "java/lang/System") (by decide +kernel)) hK hP hD hS 6 5 0 0 rfl rfl rfl rfl rfl (sp := ((nx + 8 - 1) % 8) * 24) (dp := 0) (n := 24) (by omega) (by omega) (by decide) (by decide) (fun _ _ => rfl) (Nat.le_of_ble_eq_true rfl) (Nat.le_of_ble_eq_true rfl) dX0_goBack_53 (fun H locs hP hD hS => ?_)
    have hP : va_P (dC, dI) vwCl [(b0, .inr (0, [.ref h3, .ref hrs, .int (nI dr), .int (nI (kn - 1)), .int (nI ((nx + 8 - 1) % 8)), .ref hpr, .ref hpd])), (h3, .inr (3, [.int (nI n), .int (nI h), .int (nI rg), .int (nI sp), .ref hk, .ref hw, .ref hs])), (hk, .inl (cI, 6, .inl kf)), (hw, .inl (cI, 6, .inl wf)), (hs, .inl (cI, 6, .inl sf)), (hrs, .inl (cI, 24, .inl (va_cpy (nA Pr) (nA Rr) (((nx + 8 - 1) % 8) * 24) 0 24))), (hpr, .inl (cI, 192, .inl (nA Pr))), (hpd, .inl (cI, 8, .inl (nA Pd)))] H := hP
    have hD : va_D A [(b0, .inr (0, [.ref h3, .ref hrs, .int (nI dr), .int (nI (kn - 1)), .int (nI ((nx + 8 - 1) % 8)), .ref hpr, .ref hpd])), (h3, .inr (3, [.int (nI n), .int (nI h), .int (nI rg), .int (nI sp), .ref hk, .ref hw, .ref hs])), (hk, .inl (cI, 6, .inl kf)), (hw, .inl (cI, 6, .inl wf)), (hs, .inl (cI, 6, .inl sf)), (hrs, .inl (cI, 24, .inl (va_cpy (nA Pr) (nA Rr) (((nx + 8 - 1) % 8) * 24) 0 24))), (hpr, .inl (cI, 192, .inl (nA Pr))), (hpd, .inl (cI, 8, .inl (nA Pd)))] := hD
    have ec : va_cpy (nA Pr) (nA Rr) (((nx + 8 - 1) % 8) * 24) 0 24 = nA (cpN Pr Rr (((nx + 8 - 1) % 8) * 24) 0 24) := nA_cpy _ _ _ _ _
    rw [ec] at hP hD
    have hP : va_P (dC, dI) vwCl [(b0, .inr (0, [.ref h3, .ref hrs, .int (nI dr), .int (nI (kn - 1)), .int (nI ((nx + 8 - 1) % 8)), .ref hpr, .ref hpd])), (h3, .inr (3, [.int (nI n), .int (nI h), .int (nI rg), .int (nI sp), .ref hk, .ref hw, .ref hs])), (hk, .inl (cI, 6, .inl kf)), (hw, .inl (cI, 6, .inl wf)), (hs, .inl (cI, 6, .inl sf)), (hrs, .inl (cI, 24, .inl (nA (cpN Pr Rr (((nx + 8 - 1) % 8) * 24) 0 24)))), (hpr, .inl (cI, 192, .inl (nA Pr))), (hpd, .inl (cI, 8, .inl (nA Pd)))] H := hP
    have hD : va_D A [(b0, .inr (0, [.ref h3, .ref hrs, .int (nI dr), .int (nI (kn - 1)), .int (nI ((nx + 8 - 1) % 8)), .ref hpr, .ref hpd])), (h3, .inr (3, [.int (nI n), .int (nI h), .int (nI rg), .int (nI sp), .ref hk, .ref hw, .ref hs])), (hk, .inl (cI, 6, .inl kf)), (hw, .inl (cI, 6, .inl wf)), (hs, .inl (cI, 6, .inl sf)), (hrs, .inl (cI, 24, .inl (nA (cpN Pr Rr (((nx + 8 - 1) % 8) * 24) 0 24)))), (hpr, .inl (cI, 192, .inl (nA Pr))), (hpd, .inl (cI, 8, .inl (nA Pd)))] := hD
    refine lv_aload_n hx hb dX0_goBack_56 rfl (lv_at hl 0 rfl) ?_
    refine lv_aload_n hx hb dX0_goBack_57 rfl (lv_at hl 0 rfl) ?_
    refine va_get (D := (dC, dI)) (ci := 0) (v := .ref hpd) (C := RX0) (T := TX0) (N := 7) hx hb hts hiX0 hown hK hP 0 rfl rfl 6 (by decide) (hts (.fieldLink RX0 29 "RestRegisters$Bank" "pastDraws" "[I") (by decide +kernel)) (fun _ h9 => h9) rfl dX0_goBack_58 ?_
    refine lv_aload_n hx hb dX0_goBack_61 rfl (lv_at hl 0 rfl) ?_
    refine va_get (D := (dC, dI)) (ci := 0) (v := .int (nI ((nx + 8 - 1) % 8))) (C := RX0) (T := TX0) (N := 7) hx hb hts hiX0 hown hK hP 0 rfl rfl 4 (by decide) (hts (.fieldLink RX0 39 "RestRegisters$Bank" "next" "I") (by decide +kernel)) (fun _ h9 => h9) rfl dX0_goBack_62 ?_
    refine rn_iald hx hb hK hP 7 0 rfl rfl (i := (nx + 8 - 1) % 8) (by omega) (by decide) (v := (nI (Pd ((nx + 8 - 1) % 8)))) rfl dX0_goBack_65 ?_
    refine va_put (D := (dC, dI)) (ci := 0) (v := .int (nI (Pd ((nx + 8 - 1) % 8)))) (ty := .int) (C := RX0) (T := TX0) (N := 7) hx hb hts hiX0 tyX0 tyX0_ok nmX0 hown hK hP hD hS 0 rfl rfl 2 (by decide) (hts (.fieldLink RX0 22 "RestRegisters$Bank" "draw" "I") (by decide +kernel)) (fun _ h9 => h9) rfl (by decide +kernel) rfl rfl (Nat.le_of_ble_eq_true rfl) dX0_goBack_66 (fun H locs hP hD hS => ?_)
    have hP : va_P (dC, dI) vwCl [(b0, .inr (0, [.ref h3, .ref hrs, .int (nI (Pd ((nx + 8 - 1) % 8))), .int (nI (kn - 1)), .int (nI ((nx + 8 - 1) % 8)), .ref hpr, .ref hpd])), (h3, .inr (3, [.int (nI n), .int (nI h), .int (nI rg), .int (nI sp), .ref hk, .ref hw, .ref hs])), (hk, .inl (cI, 6, .inl kf)), (hw, .inl (cI, 6, .inl wf)), (hs, .inl (cI, 6, .inl sf)), (hrs, .inl (cI, 24, .inl (nA (cpN Pr Rr (((nx + 8 - 1) % 8) * 24) 0 24)))), (hpr, .inl (cI, 192, .inl (nA Pr))), (hpd, .inl (cI, 8, .inl (nA Pd)))] H := hP
    have hD : va_D A [(b0, .inr (0, [.ref h3, .ref hrs, .int (nI (Pd ((nx + 8 - 1) % 8))), .int (nI (kn - 1)), .int (nI ((nx + 8 - 1) % 8)), .ref hpr, .ref hpd])), (h3, .inr (3, [.int (nI n), .int (nI h), .int (nI rg), .int (nI sp), .ref hk, .ref hw, .ref hs])), (hk, .inl (cI, 6, .inl kf)), (hw, .inl (cI, 6, .inl wf)), (hs, .inl (cI, 6, .inl sf)), (hrs, .inl (cI, 24, .inl (nA (cpN Pr Rr (((nx + 8 - 1) % 8) * 24) 0 24)))), (hpr, .inl (cI, 192, .inl (nA Pr))), (hpd, .inl (cI, 8, .inl (nA Pd)))] := hD
    refine lv_iconst (v := (nI 1)) hx hb dX0_goBack_69 (by decide) ?_
    refine rr_top (y := bi true) rfl ?_
    exact rr_zretW hx hb hr hlocks dX0_goBack_70 hP hD hS (rfl)
  exact absurd c4 (by omega)
set_option maxHeartbeats 4000000 in
set_option maxRecDepth 100000 in
theorem c_X0_driftOnce (l : Launch) (dC : Nat → ClassId) (dI : Nat → Nat → Nat) (cI cJ cS : ClassId) (sz : Nat) (b0 h3 hk hw hs hrs hpr hpd : Nat) (n h rg sp dr kn nx : Nat) (kf wf sf : Nat → Int32) (Kd Wd Sh Rr Pr Pd : Nat → Nat) (ok : wOk n Kd Wd) (fk : isA n kf Kd) (fw : isA n wf Wd) (hR : rOk n Wd Rr) : Met l yX0_driftOnce wsX0_driftOnce ({ frames := 5, cells := 0, slots := 0, locals := 115 }) (va_Pc [.ref b0] (rW (dC, dI) vwCl [(b0, .inr (0, [.ref h3, .ref hrs, .int (nI dr), .int (nI kn), .int (nI nx), .ref hpr, .ref hpd])), (h3, .inr (3, [.int (nI n), .int (nI h), .int (nI rg), .int (nI sp), .ref hk, .ref hw, .ref hs])), (hk, .inl (cI, 6, .inl kf)), (hw, .inl (cI, 6, .inl wf)), (hs, .inl (cI, 6, .inl sf)), (hrs, .inl (cI, 24, .inl (nA Rr))), (hpr, .inl (cI, 192, .inl (nA Pr))), (hpd, .inl (cI, 8, .inl (nA Pd)))] (tyz cI cJ cS) sz)) (qV (dC, dI) vwCl [(b0, .inr (0, [.ref h3, .ref hrs, .int (nI (lcg dr)), .int (nI kn), .int (nI nx), .ref hpr, .ref hpd])), (h3, .inr (3, [.int (nI n), .int (nI h), .int (nI rg), .int (nI sp), .ref hk, .ref hw, .ref hs])), (hk, .inl (cI, 6, .inl kf)), (hw, .inl (cI, 6, .inl wf)), (hs, .inl (cI, 6, .inl sf)), (hrs, .inl (cI, 24, .inl (nA (dfR n Kd Wd Rr (lcg dr))))), (hpr, .inl (cI, 192, .inl (nA Pr))), (hpd, .inl (cI, 8, .inl (nA Pd)))] (va_A [(b0, .inr (0, [.ref h3, .ref hrs, .int (nI dr), .int (nI kn), .int (nI nx), .ref hpr, .ref hpd])), (h3, .inr (3, [.int (nI n), .int (nI h), .int (nI rg), .int (nI sp), .ref hk, .ref hw, .ref hs])), (hk, .inl (cI, 6, .inl kf)), (hw, .inl (cI, 6, .inl wf)), (hs, .inl (cI, 6, .inl sf)), (hrs, .inl (cI, 24, .inl (nA Rr))), (hpr, .inl (cI, 192, .inl (nA Pr))), (hpd, .inl (cI, 8, .inl (nA Pd)))] sz)) 0 0 (va_A [(b0, .inr (0, [.ref h3, .ref hrs, .int (nI dr), .int (nI kn), .int (nI nx), .ref hpr, .ref hpd])), (h3, .inr (3, [.int (nI n), .int (nI h), .int (nI rg), .int (nI sp), .ref hk, .ref hw, .ref hs])), (hk, .inl (cI, 6, .inl kf)), (hw, .inl (cI, 6, .inl wf)), (hs, .inl (cI, 6, .inl sf)), (hrs, .inl (cI, 24, .inl (nA Rr))), (hpr, .inl (cI, 192, .inl (nA Pr))), (hpd, .inl (cI, 8, .inl (nA Pd)))] sz) := by
  refine Met.ofW (cc := cX0_driftOnce) (maxL := 3) (ret := none) (by decide) rfl ?_
  intro p e s m args below meth c s₁ B hml hv
  obtain ⟨rfl, hsz, hP, hKK, hD0⟩ := hv
  have hK := hKK.1
  have hx := B.exec
  have hb := B.bytes
  have hr := B.returns
  have hts := atoms_spec (ws := wsX0_driftOnce) B.pre
  have hown : s.vm.findClass RX0 = some m.cls := findClass_of_methodNamed B.named
  have hlocks := B.notSynchronized
  subst hsz
  have hD := hD0.self (sz := s.heap.size)
  generalize hAe : va_A [(b0, .inr (0, [.ref h3, .ref hrs, .int (nI dr), .int (nI kn), .int (nI nx), .ref hpr, .ref hpd])), (h3, .inr (3, [.int (nI n), .int (nI h), .int (nI rg), .int (nI sp), .ref hk, .ref hw, .ref hs])), (hk, .inl (cI, 6, .inl kf)), (hw, .inl (cI, 6, .inl wf)), (hs, .inl (cI, 6, .inl sf)), (hrs, .inl (cI, 24, .inl (nA Rr))), (hpr, .inl (cI, 192, .inl (nA Pr))), (hpd, .inl (cI, 8, .inl (nA Pd)))] s.heap.size = A at hD ⊢
  have hA : ∀ q : Nat, s.heap.size ≤ q → A q := fun q h => by rw [← hAe]; exact Or.inr h
  have hS : va_S A s.heap s.heap [] := va_S.rf
  have hP : va_P (dC, dI) vwCl [(b0, .inr (0, [.ref h3, .ref hrs, .int (nI dr), .int (nI kn), .int (nI nx), .ref hpr, .ref hpd])), (h3, .inr (3, [.int (nI n), .int (nI h), .int (nI rg), .int (nI sp), .ref hk, .ref hw, .ref hs])), (hk, .inl (cI, 6, .inl kf)), (hw, .inl (cI, 6, .inl wf)), (hs, .inl (cI, 6, .inl sf)), (hrs, .inl (cI, 24, .inl (nA Rr))), (hpr, .inl (cI, 192, .inl (nA Pr))), (hpd, .inl (cI, 8, .inl (nA Pd)))] s.heap := hP
  have hiX0 : ∀ w ∈ wsX00, w ∈ wsX0_driftOnce := by decide +kernel
  have hiX3 : ∀ w ∈ wsX30, w ∈ wsX0_driftOnce := by decide +kernel
  have hl := lv_entry ([.ref b0]) (n := 3) (Nat.le_of_ble_eq_true rfl)
  rw [lg_entry_eq]
  generalize (lg_sl ([.ref b0]) ++ List.replicate (3 - (lg_sl ([.ref b0])).length) Slot.unset).toArray = ls at hl ⊢
  have hl : lv_has ls 3 [(0, .ref b0)] := hl
  have hn6 := ok.1
  refine lv_aload_n hx hb dX0_driftOnce_0 rfl (lv_at hl 0 rfl) ?_
  refine lv_aload_n hx hb dX0_driftOnce_1 rfl (lv_at hl 0 rfl) ?_
  refine va_get (D := (dC, dI)) (ci := 0) (v := .int (nI dr)) (C := RX0) (T := TX0) (N := 7) hx hb hts hiX0 hown hK hP 0 rfl rfl 2 (by decide) (hts (.fieldLink RX0 22 "RestRegisters$Bank" "draw" "I") (by decide +kernel)) (fun _ h9 => h9) rfl dX0_driftOnce_2 ?_
  refine lv_ldc (v := 1103515245) hx hb hown (hts (.constant RX0 95 (1103515245)) (by decide +kernel)) dX0_driftOnce_5 ?_
  refine rr_top (y := nI 1103515245) (by decide) ?_
  refine rn_imul hx hb dX0_driftOnce_7 ?_
  refine lv_sipush (v := (nI 12345)) hx hb dX0_driftOnce_8 (by decide) ?_
  refine rn_iadd hx hb dX0_driftOnce_11 ?_
  refine lv_ldc (v := 2147483647) hx hb hown (hts (.constant RX0 96 (2147483647)) (by decide +kernel)) dX0_driftOnce_12 ?_
  refine rr_top (y := nI 2147483647) (by decide) ?_
  refine lv_iand hx hb dX0_driftOnce_14 ?_
  refine rr_top (y := (nI (lcg dr))) (and31 _) ?_
  have hd := lcg_lt dr
  generalize hdd : lcg dr = d at hd ⊢
  refine va_put (D := (dC, dI)) (ci := 0) (v := .int (nI d)) (ty := .int) (C := RX0) (T := TX0) (N := 7) hx hb hts hiX0 tyX0 tyX0_ok nmX0 hown hK hP hD hS 0 rfl rfl 2 (by decide) (hts (.fieldLink RX0 22 "RestRegisters$Bank" "draw" "I") (by decide +kernel)) (fun _ h9 => h9) rfl (by decide +kernel) rfl rfl (Nat.le_of_ble_eq_true rfl) dX0_driftOnce_15 (fun H locs hP hD hS => ?_)
  have hP : va_P (dC, dI) vwCl [(b0, .inr (0, [.ref h3, .ref hrs, .int (nI d), .int (nI kn), .int (nI nx), .ref hpr, .ref hpd])), (h3, .inr (3, [.int (nI n), .int (nI h), .int (nI rg), .int (nI sp), .ref hk, .ref hw, .ref hs])), (hk, .inl (cI, 6, .inl kf)), (hw, .inl (cI, 6, .inl wf)), (hs, .inl (cI, 6, .inl sf)), (hrs, .inl (cI, 24, .inl (nA Rr))), (hpr, .inl (cI, 192, .inl (nA Pr))), (hpd, .inl (cI, 8, .inl (nA Pd)))] H := hP
  have hD : va_D A [(b0, .inr (0, [.ref h3, .ref hrs, .int (nI d), .int (nI kn), .int (nI nx), .ref hpr, .ref hpd])), (h3, .inr (3, [.int (nI n), .int (nI h), .int (nI rg), .int (nI sp), .ref hk, .ref hw, .ref hs])), (hk, .inl (cI, 6, .inl kf)), (hw, .inl (cI, 6, .inl wf)), (hs, .inl (cI, 6, .inl sf)), (hrs, .inl (cI, 24, .inl (nA Rr))), (hpr, .inl (cI, 192, .inl (nA Pr))), (hpd, .inl (cI, 8, .inl (nA Pd)))] := hD
  refine lv_aload_n hx hb dX0_driftOnce_18 rfl (lv_at hl 0 rfl) ?_
  refine va_get (D := (dC, dI)) (ci := 0) (v := .int (nI d)) (C := RX0) (T := TX0) (N := 7) hx hb hts hiX0 hown hK hP 0 rfl rfl 2 (by decide) (hts (.fieldLink RX0 22 "RestRegisters$Bank" "draw" "I") (by decide +kernel)) (fun _ h9 => h9) rfl dX0_driftOnce_19 ?_
  refine lv_ldc (v := 65536) hx hb hown (hts (.constant RX0 97 (65536)) (by decide +kernel)) dX0_driftOnce_22 ?_
  refine rr_top (y := nI 65536) (by decide) ?_
  refine rn_idiv hx hb dX0_driftOnce_24 (by omega) (by omega) (by omega) ?_
  refine lv_iconst (v := (nI 4)) hx hb dX0_driftOnce_25 (by decide) ?_
  refine rn_irem hx hb dX0_driftOnce_26 (by omega) (by omega) (by omega) ?_
  refine lv_istore_n (lv' := [(1, .int (nI ((d / 65536) % 4))), (0, .ref b0)]) hx hb dX0_driftOnce_27 rfl hl (by decide) rfl (fun ls hl => ?_)
  refine lv_aload_n hx hb dX0_driftOnce_28 rfl (lv_at hl 1 rfl) ?_
  refine lv_iload_n hx hb dX0_driftOnce_29 rfl (lv_at hl 0 rfl) ?_
  refine lv_aload_n hx hb dX0_driftOnce_30 rfl (lv_at hl 1 rfl) ?_
  refine va_get (D := (dC, dI)) (ci := 0) (v := .int (nI d)) (C := RX0) (T := TX0) (N := 7) hx hb hts hiX0 hown hK hP 0 rfl rfl 2 (by decide) (hts (.fieldLink RX0 22 "RestRegisters$Bank" "draw" "I") (by decide +kernel)) (fun _ h9 => h9) rfl dX0_driftOnce_31 ?_
  refine lv_sipush (v := (nI 128)) hx hb dX0_driftOnce_34 (by decide) ?_
  refine rn_idiv hx hb dX0_driftOnce_37 (by omega) (by omega) (by omega) ?_
  refine lv_iconst (v := (nI 4)) hx hb dX0_driftOnce_38 (by decide) ?_
  refine rn_irem hx hb dX0_driftOnce_39 (by omega) (by omega) (by omega) ?_
  refine rw_callv (va_runV (As := [.int (nI ((d / 65536) % 4)), .int (nI ((d / 128) % 4))]) (rest := []) ⟨hx, hb, hml, hown, hts⟩ (c_X0_addTo l dC dI cI cJ cS _ b0 h3 hk hw hs hrs hpr hpd n h rg sp d kn nx kf wf sf Kd Wd Sh Rr Pr Pd ((d / 65536) % 4) ((d / 128) % 4) (by first | assumption | omega) (by first | assumption | omega) (by first | assumption | omega) (by first | assumption | omega) (by first | assumption | omega) (by first | assumption | omega)) (cwV 2 hts gX0_driftOnce_X0_addTo rfl rfl rfl (by decide +kernel) ⟨Nat.le_of_ble_eq_true rfl, Nat.le_of_ble_eq_true rfl⟩) (rw_preV hKK hP hD rfl rfl) rfl rfl hl.1 rfl (lv_room (Nat.le_of_ble_eq_true rfl)) dX0_driftOnce_40 ⟨Nat.zero_le _, Nat.zero_le _⟩) (wr := []) hP hD hS hA [0, 1, 2, 3, 4, 5, 6, 7] [] rfl rfl (by decide) (by decide) (fun H locs hP hD hS => ?_)
  have hP : va_P (dC, dI) vwCl [(b0, .inr (0, [.ref h3, .ref hrs, .int (nI d), .int (nI kn), .int (nI nx), .ref hpr, .ref hpd])), (h3, .inr (3, [.int (nI n), .int (nI h), .int (nI rg), .int (nI sp), .ref hk, .ref hw, .ref hs])), (hk, .inl (cI, 6, .inl kf)), (hw, .inl (cI, 6, .inl wf)), (hs, .inl (cI, 6, .inl sf)), (hrs, .inl (cI, 24, .inl (nA (rwN ((d / 65536) % 4) (adF Kd Wd Rr ((d / 65536) % 4) ((d / 128) % 4)) n Rr)))), (hpr, .inl (cI, 192, .inl (nA Pr))), (hpd, .inl (cI, 8, .inl (nA Pd)))] H := hP.sub [0, 1, 2, 3, 4, 5, 6, 7] rfl
  have hD : va_D A [(b0, .inr (0, [.ref h3, .ref hrs, .int (nI d), .int (nI kn), .int (nI nx), .ref hpr, .ref hpd])), (h3, .inr (3, [.int (nI n), .int (nI h), .int (nI rg), .int (nI sp), .ref hk, .ref hw, .ref hs])), (hk, .inl (cI, 6, .inl kf)), (hw, .inl (cI, 6, .inl wf)), (hs, .inl (cI, 6, .inl sf)), (hrs, .inl (cI, 24, .inl (nA (rwN ((d / 65536) % 4) (adF Kd Wd Rr ((d / 65536) % 4) ((d / 128) % 4)) n Rr)))), (hpr, .inl (cI, 192, .inl (nA Pr))), (hpd, .inl (cI, 8, .inl (nA Pd)))] := hD.sub [0, 1, 2, 3, 4, 5, 6, 7] (by decide) rfl
  refine lv_aload_n hx hb dX0_driftOnce_43 rfl (lv_at hl 1 rfl) ?_
  refine va_get (D := (dC, dI)) (ci := 0) (v := .ref h3) (C := RX0) (T := TX0) (N := 7) hx hb hts hiX0 hown hK hP 0 rfl rfl 0 (by decide) (hts (.fieldLink RX0 12 "RestRegisters$Bank" "wheels" "LRestRegisters$Wheels;") (by decide +kernel)) (fun _ h9 => h9) rfl dX0_driftOnce_44 ?_
  refine va_get (D := (dC, dI)) (ci := 3) (v := .int (nI n)) (C := RX3) (T := TX3) (N := 7) hx hb hts hiX3 hown hK hP 1 rfl rfl 0 (by decide) (hts (.fieldLink RX0 54 "RestRegisters$Wheels" "size" "I") (by decide +kernel)) (fun _ h9 => h9) rfl dX0_driftOnce_47 ?_
  refine rn_if_le (tgt := 107) hx hb dX0_driftOnce_50 (by decide) (by omega) (fun c50 => ?_) (fun c50 => ?_)
  · skip
    have ec : nA (rwN ((d / 65536) % 4) (adF Kd Wd Rr ((d / 65536) % 4) ((d / 128) % 4)) n Rr) = nA (dfR n Kd Wd Rr d) := by unfold dfR; first | (rw [if_pos ⟨c50, c63⟩]; done) | (rw [if_neg (by omega)])
    rw [ec] at hP hD
    have hP : va_P (dC, dI) vwCl [(b0, .inr (0, [.ref h3, .ref hrs, .int (nI d), .int (nI kn), .int (nI nx), .ref hpr, .ref hpd])), (h3, .inr (3, [.int (nI n), .int (nI h), .int (nI rg), .int (nI sp), .ref hk, .ref hw, .ref hs])), (hk, .inl (cI, 6, .inl kf)), (hw, .inl (cI, 6, .inl wf)), (hs, .inl (cI, 6, .inl sf)), (hrs, .inl (cI, 24, .inl (nA (dfR n Kd Wd Rr d)))), (hpr, .inl (cI, 192, .inl (nA Pr))), (hpd, .inl (cI, 8, .inl (nA Pd)))] H := hP
    have hD : va_D A [(b0, .inr (0, [.ref h3, .ref hrs, .int (nI d), .int (nI kn), .int (nI nx), .ref hpr, .ref hpd])), (h3, .inr (3, [.int (nI n), .int (nI h), .int (nI rg), .int (nI sp), .ref hk, .ref hw, .ref hs])), (hk, .inl (cI, 6, .inl kf)), (hw, .inl (cI, 6, .inl wf)), (hs, .inl (cI, 6, .inl sf)), (hrs, .inl (cI, 24, .inl (nA (dfR n Kd Wd Rr d)))), (hpr, .inl (cI, 192, .inl (nA Pr))), (hpd, .inl (cI, 8, .inl (nA Pd)))] := hD
    exact rr_vretW hx hb hr hlocks dX0_driftOnce_107 hP hD hS
  refine lv_aload_n hx hb dX0_driftOnce_53 rfl (lv_at hl 1 rfl) ?_
  refine va_get (D := (dC, dI)) (ci := 0) (v := .int (nI d)) (C := RX0) (T := TX0) (N := 7) hx hb hts hiX0 hown hK hP 0 rfl rfl 2 (by decide) (hts (.fieldLink RX0 22 "RestRegisters$Bank" "draw" "I") (by decide +kernel)) (fun _ h9 => h9) rfl dX0_driftOnce_54 ?_
  refine lv_sipush (v := (nI 2048)) hx hb dX0_driftOnce_57 (by decide) ?_
  refine rn_idiv hx hb dX0_driftOnce_60 (by omega) (by omega) (by omega) ?_
  refine lv_iconst (v := (nI 5)) hx hb dX0_driftOnce_61 (by decide) ?_
  refine rn_irem hx hb dX0_driftOnce_62 (by omega) (by omega) (by omega) ?_
  refine rn_if_ne (tgt := 107) hx hb dX0_driftOnce_63 (by decide) (by omega) (fun c63 => ?_) (fun c63 => ?_)
  · skip
    have ec : nA (rwN ((d / 65536) % 4) (adF Kd Wd Rr ((d / 65536) % 4) ((d / 128) % 4)) n Rr) = nA (dfR n Kd Wd Rr d) := by unfold dfR; first | (rw [if_pos ⟨c50, c63⟩]; done) | (rw [if_neg (by omega)])
    rw [ec] at hP hD
    have hP : va_P (dC, dI) vwCl [(b0, .inr (0, [.ref h3, .ref hrs, .int (nI d), .int (nI kn), .int (nI nx), .ref hpr, .ref hpd])), (h3, .inr (3, [.int (nI n), .int (nI h), .int (nI rg), .int (nI sp), .ref hk, .ref hw, .ref hs])), (hk, .inl (cI, 6, .inl kf)), (hw, .inl (cI, 6, .inl wf)), (hs, .inl (cI, 6, .inl sf)), (hrs, .inl (cI, 24, .inl (nA (dfR n Kd Wd Rr d)))), (hpr, .inl (cI, 192, .inl (nA Pr))), (hpd, .inl (cI, 8, .inl (nA Pd)))] H := hP
    have hD : va_D A [(b0, .inr (0, [.ref h3, .ref hrs, .int (nI d), .int (nI kn), .int (nI nx), .ref hpr, .ref hpd])), (h3, .inr (3, [.int (nI n), .int (nI h), .int (nI rg), .int (nI sp), .ref hk, .ref hw, .ref hs])), (hk, .inl (cI, 6, .inl kf)), (hw, .inl (cI, 6, .inl wf)), (hs, .inl (cI, 6, .inl sf)), (hrs, .inl (cI, 24, .inl (nA (dfR n Kd Wd Rr d)))), (hpr, .inl (cI, 192, .inl (nA Pr))), (hpd, .inl (cI, 8, .inl (nA Pd)))] := hD
    exact rr_vretW hx hb hr hlocks dX0_driftOnce_107 hP hD hS
  refine lv_aload_n hx hb dX0_driftOnce_66 rfl (lv_at hl 1 rfl) ?_
  refine va_get (D := (dC, dI)) (ci := 0) (v := .int (nI d)) (C := RX0) (T := TX0) (N := 7) hx hb hts hiX0 hown hK hP 0 rfl rfl 2 (by decide) (hts (.fieldLink RX0 22 "RestRegisters$Bank" "draw" "I") (by decide +kernel)) (fun _ h9 => h9) rfl dX0_driftOnce_67 ?_
  refine lv_sipush (v := (nI 256)) hx hb dX0_driftOnce_70 (by decide) ?_
  refine rn_idiv hx hb dX0_driftOnce_73 (by omega) (by omega) (by omega) ?_
  refine lv_aload_n hx hb dX0_driftOnce_74 rfl (lv_at hl 1 rfl) ?_
  refine va_get (D := (dC, dI)) (ci := 0) (v := .ref h3) (C := RX0) (T := TX0) (N := 7) hx hb hts hiX0 hown hK hP 0 rfl rfl 0 (by decide) (hts (.fieldLink RX0 12 "RestRegisters$Bank" "wheels" "LRestRegisters$Wheels;") (by decide +kernel)) (fun _ h9 => h9) rfl dX0_driftOnce_75 ?_
  refine va_get (D := (dC, dI)) (ci := 3) (v := .int (nI n)) (C := RX3) (T := TX3) (N := 7) hx hb hts hiX3 hown hK hP 1 rfl rfl 0 (by decide) (hts (.fieldLink RX0 54 "RestRegisters$Wheels" "size" "I") (by decide +kernel)) (fun _ h9 => h9) rfl dX0_driftOnce_78 ?_
  refine rn_irem hx hb dX0_driftOnce_81 (by omega) (by omega) (by omega) ?_
  refine lv_istore_n (lv' := [(2, .int (nI ((d / 256) % n))), (1, .int (nI ((d / 65536) % 4))), (0, .ref b0)]) hx hb dX0_driftOnce_82 rfl hl (by decide) rfl (fun ls hl => ?_)
  have hmw := Nat.mod_lt (d / 256) c50
  have hrr := rOk_rw (r := d / 65536 % 4) hR hn6 (adF_lt (K := Kd) hR (r := d / 65536 % 4) (o := d / 128 % 4) (by omega) (by omega)) (d / 65536 % 4) (d / 256 % n) (by omega) hmw
  have hw3 := ok.2.2.1 (d / 256 % n) hmw
  refine lv_aload_n hx hb dX0_driftOnce_83 rfl (lv_at hl 2 rfl) ?_
  refine lv_iload_n hx hb dX0_driftOnce_84 rfl (lv_at hl 1 rfl) ?_
  refine lv_iload_n hx hb dX0_driftOnce_85 rfl (lv_at hl 0 rfl) ?_
  refine lv_aload_n hx hb dX0_driftOnce_86 rfl (lv_at hl 2 rfl) ?_
  refine lv_iload_n hx hb dX0_driftOnce_87 rfl (lv_at hl 1 rfl) ?_
  refine lv_iload_n hx hb dX0_driftOnce_88 rfl (lv_at hl 0 rfl) ?_
  refine rr_callR (va_runV (As := [.int (nI ((d / 65536) % 4)), .int (nI ((d / 256) % n))]) (rest := [.int (nI ((d / 256) % n)), .int (nI ((d / 65536) % 4)), .ref b0]) ⟨hx, hb, hml, hown, hts⟩ (c_X0_shown l dC dI cI cJ cS b0 h3 hrs hpr hpd d kn nx (rwN ((d / 65536) % 4) (adF Kd Wd Rr ((d / 65536) % 4) ((d / 128) % 4)) n Rr) ((d / 65536) % 4) ((d / 256) % n) (by first | assumption | omega) (by first | assumption | omega)) (cwV 2 hts gX0_driftOnce_X0_shown rfl rfl rfl (by decide +kernel) ⟨Nat.le_of_ble_eq_true rfl, Nat.le_of_ble_eq_true rfl⟩) (rr_preV hKK (hP.sub [0, 5] rfl) rfl rfl) rfl rfl hl.1 rfl (lv_room (Nat.le_of_ble_eq_true rfl)) dX0_driftOnce_89 ⟨Nat.zero_le _, Nat.zero_le _⟩) ?_
  refine lv_iconst (v := (nI 1)) hx hb dX0_driftOnce_92 (by decide) ?_
  refine rn_iadd hx hb dX0_driftOnce_93 ?_
  refine lv_aload_n hx hb dX0_driftOnce_94 rfl (lv_at hl 2 rfl) ?_
  refine va_get (D := (dC, dI)) (ci := 0) (v := .ref h3) (C := RX0) (T := TX0) (N := 7) hx hb hts hiX0 hown hK hP 0 rfl rfl 0 (by decide) (hts (.fieldLink RX0 12 "RestRegisters$Bank" "wheels" "LRestRegisters$Wheels;") (by decide +kernel)) (fun _ h9 => h9) rfl dX0_driftOnce_95 ?_
  refine va_get (D := (dC, dI)) (ci := 3) (v := .ref hw) (C := RX3) (T := TX3) (N := 7) hx hb hts hiX3 hown hK hP 1 rfl rfl 5 (by decide) (hts (.fieldLink RX0 81 "RestRegisters$Wheels" "widths" "[I") (by decide +kernel)) (fun _ h9 => h9) rfl dX0_driftOnce_98 ?_
  refine lv_iload_n hx hb dX0_driftOnce_101 rfl (lv_at hl 0 rfl) ?_
  refine rn_iald hx hb hK hP 3 0 rfl rfl (i := (d / 256) % n) (by omega) (by decide) (v := (nI (Wd ((d / 256) % n)))) (fw ((d / 256) % n) (by omega)) dX0_driftOnce_102 ?_
  have hv102 := ok.2.2.1 ((d / 256) % n) (by omega)
  refine rn_irem hx hb dX0_driftOnce_103 (by omega) (by omega) (by omega) ?_
  refine rw_callv (va_runV (As := [.int (nI ((d / 65536) % 4)), .int (nI ((d / 256) % n)), .int (nI (((rwN ((d / 65536) % 4) (adF Kd Wd Rr ((d / 65536) % 4) ((d / 128) % 4)) n Rr) (((d / 65536) % 4) * 6 + ((d / 256) % n)) + 1) % (Wd ((d / 256) % n))))]) (rest := []) ⟨hx, hb, hml, hown, hts⟩ (c_X0_show l dC dI cI cJ cS _ b0 h3 hrs hpr hpd d kn nx (rwN ((d / 65536) % 4) (adF Kd Wd Rr ((d / 65536) % 4) ((d / 128) % 4)) n Rr) ((d / 65536) % 4) ((d / 256) % n) (((rwN ((d / 65536) % 4) (adF Kd Wd Rr ((d / 65536) % 4) ((d / 128) % 4)) n Rr) (((d / 65536) % 4) * 6 + ((d / 256) % n)) + 1) % (Wd ((d / 256) % n))) (by first | assumption | omega) (by first | assumption | omega)) (cwV 3 hts gX0_driftOnce_X0_show rfl rfl rfl (by decide +kernel) ⟨Nat.le_of_ble_eq_true rfl, Nat.le_of_ble_eq_true rfl⟩) (rw_preV hKK (hP.sub [0, 5] rfl) (hD.sub [0, 5] (by decide) rfl) rfl rfl) rfl rfl hl.1 rfl (lv_room (Nat.le_of_ble_eq_true rfl)) dX0_driftOnce_104 ⟨Nat.zero_le _, Nat.zero_le _⟩) (wr := [(h3, .inr (3, [.int (nI n), .int (nI h), .int (nI rg), .int (nI sp), .ref hk, .ref hw, .ref hs])), (hk, .inl (cI, 6, .inl kf)), (hw, .inl (cI, 6, .inl wf)), (hs, .inl (cI, 6, .inl sf)), (hpr, .inl (cI, 192, .inl (nA Pr))), (hpd, .inl (cI, 8, .inl (nA Pd)))]) hP hD hS hA [0, 5] [1, 2, 3, 4, 6, 7] rfl rfl (by decide) (by decide) (fun H locs hP hD hS => ?_)
  have hP : va_P (dC, dI) vwCl [(b0, .inr (0, [.ref h3, .ref hrs, .int (nI d), .int (nI kn), .int (nI nx), .ref hpr, .ref hpd])), (h3, .inr (3, [.int (nI n), .int (nI h), .int (nI rg), .int (nI sp), .ref hk, .ref hw, .ref hs])), (hk, .inl (cI, 6, .inl kf)), (hw, .inl (cI, 6, .inl wf)), (hs, .inl (cI, 6, .inl sf)), (hrs, .inl (cI, 24, .inl (nA (uN (rwN ((d / 65536) % 4) (adF Kd Wd Rr ((d / 65536) % 4) ((d / 128) % 4)) n Rr) (((d / 65536) % 4) * 6 + ((d / 256) % n)) (((rwN ((d / 65536) % 4) (adF Kd Wd Rr ((d / 65536) % 4) ((d / 128) % 4)) n Rr) (((d / 65536) % 4) * 6 + ((d / 256) % n)) + 1) % (Wd ((d / 256) % n))))))), (hpr, .inl (cI, 192, .inl (nA Pr))), (hpd, .inl (cI, 8, .inl (nA Pd)))] H := hP.sub [6, 0, 1, 2, 3, 7, 4, 5] rfl
  have hD : va_D A [(b0, .inr (0, [.ref h3, .ref hrs, .int (nI d), .int (nI kn), .int (nI nx), .ref hpr, .ref hpd])), (h3, .inr (3, [.int (nI n), .int (nI h), .int (nI rg), .int (nI sp), .ref hk, .ref hw, .ref hs])), (hk, .inl (cI, 6, .inl kf)), (hw, .inl (cI, 6, .inl wf)), (hs, .inl (cI, 6, .inl sf)), (hrs, .inl (cI, 24, .inl (nA (uN (rwN ((d / 65536) % 4) (adF Kd Wd Rr ((d / 65536) % 4) ((d / 128) % 4)) n Rr) (((d / 65536) % 4) * 6 + ((d / 256) % n)) (((rwN ((d / 65536) % 4) (adF Kd Wd Rr ((d / 65536) % 4) ((d / 128) % 4)) n Rr) (((d / 65536) % 4) * 6 + ((d / 256) % n)) + 1) % (Wd ((d / 256) % n))))))), (hpr, .inl (cI, 192, .inl (nA Pr))), (hpd, .inl (cI, 8, .inl (nA Pd)))] := hD.sub [6, 0, 1, 2, 3, 7, 4, 5] (by decide) rfl
  have ec : nA (uN (rwN ((d / 65536) % 4) (adF Kd Wd Rr ((d / 65536) % 4) ((d / 128) % 4)) n Rr) (((d / 65536) % 4) * 6 + ((d / 256) % n)) (((rwN ((d / 65536) % 4) (adF Kd Wd Rr ((d / 65536) % 4) ((d / 128) % 4)) n Rr) (((d / 65536) % 4) * 6 + ((d / 256) % n)) + 1) % (Wd ((d / 256) % n)))) = nA (dfR n Kd Wd Rr d) := by unfold dfR; first | (rw [if_pos ⟨c50, c63⟩]; done) | (rw [if_neg (by omega)])
  rw [ec] at hP hD
  have hP : va_P (dC, dI) vwCl [(b0, .inr (0, [.ref h3, .ref hrs, .int (nI d), .int (nI kn), .int (nI nx), .ref hpr, .ref hpd])), (h3, .inr (3, [.int (nI n), .int (nI h), .int (nI rg), .int (nI sp), .ref hk, .ref hw, .ref hs])), (hk, .inl (cI, 6, .inl kf)), (hw, .inl (cI, 6, .inl wf)), (hs, .inl (cI, 6, .inl sf)), (hrs, .inl (cI, 24, .inl (nA (dfR n Kd Wd Rr d)))), (hpr, .inl (cI, 192, .inl (nA Pr))), (hpd, .inl (cI, 8, .inl (nA Pd)))] H := hP
  have hD : va_D A [(b0, .inr (0, [.ref h3, .ref hrs, .int (nI d), .int (nI kn), .int (nI nx), .ref hpr, .ref hpd])), (h3, .inr (3, [.int (nI n), .int (nI h), .int (nI rg), .int (nI sp), .ref hk, .ref hw, .ref hs])), (hk, .inl (cI, 6, .inl kf)), (hw, .inl (cI, 6, .inl wf)), (hs, .inl (cI, 6, .inl sf)), (hrs, .inl (cI, 24, .inl (nA (dfR n Kd Wd Rr d)))), (hpr, .inl (cI, 192, .inl (nA Pr))), (hpd, .inl (cI, 8, .inl (nA Pd)))] := hD
  exact rr_vretW hx hb hr hlocks dX0_driftOnce_107 hP hD hS
