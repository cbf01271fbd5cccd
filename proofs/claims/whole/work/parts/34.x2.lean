set_option maxHeartbeats 4000000 in
set_option maxRecDepth 100000 in
theorem c_X4_lay_g (l : Launch) (dC : Nat → ClassId) (dI : Nat → Nat → Nat) (cI cJ cS : ClassId) (sz : Nat) (x0 t0 k0 sa : Nat) (im : Bool) (b0 h3 hk hw hs hrs hpr hpd : Nat) (n h rg sp dr kn nx : Nat) (kf wf sf : Nat → Int32) (Kd Wd Sh Rr Pr Pd : Nat → Nat) (r v : Nat) (ok : wOk n Kd Wd) (fk : isA n kf Kd) (fw : isA n wf Wd) (fs : isA n sf Sh) (hS : ∀ j, j < n → Sh j < sp) (hsp : sp ≤ 47045881) (hsp0 : 0 < sp) (hR : rOk n Wd Rr) (hrg : rg < 2 ^ 31) (hnx : nx < 8) (hkn : kn ≤ 8) (hr4 : r < 4) (hv2 : v < sp) : Met l yX4_lay wsX4_lay ({ frames := 2, cells := 0, slots := 0, locals := 80 }) (va_Pc [.ref x0, .int (nI r), .int (nI v)] (rW (dC, dI) vwCl [(x0, .inr (4, [.ref t0, .ref b0, .ref k0, .int (bi im), .ref sa])), (b0, .inr (0, [.ref h3, .ref hrs, .int (nI dr), .int (nI kn), .int (nI nx), .ref hpr, .ref hpd])), (h3, .inr (3, [.int (nI n), .int (nI h), .int (nI rg), .int (nI sp), .ref hk, .ref hw, .ref hs])), (hk, .inl (cI, 6, .inl kf)), (hw, .inl (cI, 6, .inl wf)), (hs, .inl (cI, 6, .inl sf)), (hrs, .inl (cI, 24, .inl (nA Rr))), (hpr, .inl (cI, 192, .inl (nA Pr))), (hpd, .inl (cI, 8, .inl (nA Pd)))] (tyz cI cJ cS) sz)) (qI (nI (vR Sh Rr sp n r)) (dC, dI) vwCl [(x0, .inr (4, [.ref t0, .ref b0, .ref k0, .int (bi im), .ref sa])), (b0, .inr (0, [.ref h3, .ref hrs, .int (nI dr), .int (nI (min (kn + 1) 8)), .int (nI ((nx + 1) % 8)), .ref hpr, .ref hpd])), (h3, .inr (3, [.int (nI n), .int (nI h), .int (nI rg), .int (nI sp), .ref hk, .ref hw, .ref hs])), (hk, .inl (cI, 6, .inl kf)), (hw, .inl (cI, 6, .inl wf)), (hs, .inl (cI, 6, .inl sf)), (hrs, .inl (cI, 24, .inl (nA (rwN r (fun k => v % Wd k) n Rr)))), (hpr, .inl (cI, 192, .inl (nA (cpN Rr Pr 0 (nx * 24) 24)))), (hpd, .inl (cI, 8, .inl (nA (uN Pd nx dr))))] (va_A [(x0, .inr (4, [.ref t0, .ref b0, .ref k0, .int (bi im), .ref sa])), (b0, .inr (0, [.ref h3, .ref hrs, .int (nI dr), .int (nI kn), .int (nI nx), .ref hpr, .ref hpd])), (h3, .inr (3, [.int (nI n), .int (nI h), .int (nI rg), .int (nI sp), .ref hk, .ref hw, .ref hs])), (hk, .inl (cI, 6, .inl kf)), (hw, .inl (cI, 6, .inl wf)), (hs, .inl (cI, 6, .inl sf)), (hrs, .inl (cI, 24, .inl (nA Rr))), (hpr, .inl (cI, 192, .inl (nA Pr))), (hpd, .inl (cI, 8, .inl (nA Pd)))] sz)) 0 0 (va_A [(x0, .inr (4, [.ref t0, .ref b0, .ref k0, .int (bi im), .ref sa])), (b0, .inr (0, [.ref h3, .ref hrs, .int (nI dr), .int (nI kn), .int (nI nx), .ref hpr, .ref hpd])), (h3, .inr (3, [.int (nI n), .int (nI h), .int (nI rg), .int (nI sp), .ref hk, .ref hw, .ref hs])), (hk, .inl (cI, 6, .inl kf)), (hw, .inl (cI, 6, .inl wf)), (hs, .inl (cI, 6, .inl sf)), (hrs, .inl (cI, 24, .inl (nA Rr))), (hpr, .inl (cI, 192, .inl (nA Pr))), (hpd, .inl (cI, 8, .inl (nA Pd)))] sz) := by
  refine Met.ofW (cc := cX4_lay) (maxL := 4) (ret := (some .int)) (by decide) rfl ?_
  intro p e s m args below meth c s₁ B hml hv
  obtain ⟨rfl, hsz, hP, hKK, hD0⟩ := hv
  have hK := hKK.1
  have hx := B.exec
  have hb := B.bytes
  have hr := B.returns
  have hts := atoms_spec (ws := wsX4_lay) B.pre
  have hown : s.vm.findClass RX4 = some m.cls := findClass_of_methodNamed B.named
  have hlocks := B.notSynchronized
  subst hsz
  have hD := hD0.self (sz := s.heap.size)
  generalize hAe : va_A [(x0, .inr (4, [.ref t0, .ref b0, .ref k0, .int (bi im), .ref sa])), (b0, .inr (0, [.ref h3, .ref hrs, .int (nI dr), .int (nI kn), .int (nI nx), .ref hpr, .ref hpd])), (h3, .inr (3, [.int (nI n), .int (nI h), .int (nI rg), .int (nI sp), .ref hk, .ref hw, .ref hs])), (hk, .inl (cI, 6, .inl kf)), (hw, .inl (cI, 6, .inl wf)), (hs, .inl (cI, 6, .inl sf)), (hrs, .inl (cI, 24, .inl (nA Rr))), (hpr, .inl (cI, 192, .inl (nA Pr))), (hpd, .inl (cI, 8, .inl (nA Pd)))] s.heap.size = A at hD ⊢
  have hA : ∀ q : Nat, s.heap.size ≤ q → A q := fun q h => by rw [← hAe]; exact Or.inr h
  have hS : va_S A s.heap s.heap [] := va_S.rf
  have hP : va_P (dC, dI) vwCl [(x0, .inr (4, [.ref t0, .ref b0, .ref k0, .int (bi im), .ref sa])), (b0, .inr (0, [.ref h3, .ref hrs, .int (nI dr), .int (nI kn), .int (nI nx), .ref hpr, .ref hpd])), (h3, .inr (3, [.int (nI n), .int (nI h), .int (nI rg), .int (nI sp), .ref hk, .ref hw, .ref hs])), (hk, .inl (cI, 6, .inl kf)), (hw, .inl (cI, 6, .inl wf)), (hs, .inl (cI, 6, .inl sf)), (hrs, .inl (cI, 24, .inl (nA Rr))), (hpr, .inl (cI, 192, .inl (nA Pr))), (hpd, .inl (cI, 8, .inl (nA Pd)))] s.heap := hP
  have hiX0 : ∀ w ∈ wsX00, w ∈ wsX4_lay := by decide +kernel
  have hiX3 : ∀ w ∈ wsX30, w ∈ wsX4_lay := by decide +kernel
  have hiX4 : ∀ w ∈ wsX40, w ∈ wsX4_lay := by decide +kernel
  have hl := lv_entry ([.ref x0, .int (nI r), .int (nI v)]) (n := 4) (Nat.le_of_ble_eq_true rfl)
  rw [lg_entry_eq]
  generalize (lg_sl ([.ref x0, .int (nI r), .int (nI v)]) ++ List.replicate (4 - (lg_sl ([.ref x0, .int (nI r), .int (nI v)])).length) Slot.unset).toArray = ls at hl ⊢
  have hl : lv_has ls 4 [(0, .ref x0), (1, .int (nI r)), (2, .int (nI v))] := hl
  have hn6 := ok.1
  refine lv_iload_n hx hb dX4_lay_0 rfl (lv_at hl 1 rfl) ?_
  refine rr_callR (va_runS (As := [.int (nI r)]) (rest := []) ⟨hx, hb, hml, hown, hts⟩ (c_X4_isRegister l (nI r) ) (va_cwS 1 hts gX4_lay_X4_isRegister rfl rfl rfl (by decide +kernel) ⟨Nat.le_of_ble_eq_true rfl, Nat.le_of_ble_eq_true rfl⟩) rr_preT rfl rfl hl.1 rfl (lv_room (Nat.le_of_ble_eq_true rfl)) dX4_lay_1 ⟨Nat.zero_le _, Nat.zero_le _⟩) ?_
  refine rr_top (y := bi true) (congrArg bi (inb_lt (by omega) (by omega))) ?_
  refine rb_if_eq (tgt := 24) hx hb dX4_lay_4 (by decide) (fun c4 => ?_) (fun c4 => ?_)
  · exact absurd c4 (by decide)
  refine lv_iload_n hx hb dX4_lay_7 rfl (lv_at hl 2 rfl) ?_
  refine lv_aload_n hx hb dX4_lay_8 rfl (lv_at hl 0 rfl) ?_
  refine va_get (D := (dC, dI)) (ci := 4) (v := .ref b0) (C := RX4) (T := TX4) (N := 5) hx hb hts hiX4 hown hK hP 0 rfl rfl 1 (by decide) (hts (.fieldLink RX4 19 "RestRegisters" "now" "LRestRegisters$Bank;") (by decide +kernel)) (fun _ h9 => h9) rfl dX4_lay_9 ?_
  refine va_get (D := (dC, dI)) (ci := 0) (v := .ref h3) (C := RX0) (T := TX0) (N := 7) hx hb hts hiX0 hown hK hP 1 rfl rfl 0 (by decide) (hts (.fieldLink RX4 61 "RestRegisters$Bank" "wheels" "LRestRegisters$Wheels;") (by decide +kernel)) (fun _ h9 => h9) rfl dX4_lay_12 ?_
  refine va_get (D := (dC, dI)) (ci := 3) (v := .int (nI sp)) (C := RX3) (T := TX3) (N := 7) hx hb hts hiX3 hown hK hP 2 rfl rfl 3 (by decide) (hts (.fieldLink RX4 110 "RestRegisters$Wheels" "span" "I") (by decide +kernel)) (fun _ h9 => h9) rfl dX4_lay_15 ?_
  refine rr_callR (va_runS (As := [.int (nI v), .int (nI sp)]) (rest := []) ⟨hx, hb, hml, hown, hts⟩ (c_X4_isBelow l (nI v) sp (by first | assumption | omega)) (va_cwS 2 hts gX4_lay_X4_isBelow rfl rfl rfl (by decide +kernel) ⟨Nat.le_of_ble_eq_true rfl, Nat.le_of_ble_eq_true rfl⟩) rr_preT rfl rfl hl.1 rfl (lv_room (Nat.le_of_ble_eq_true rfl)) dX4_lay_18 ⟨Nat.zero_le _, Nat.zero_le _⟩) ?_
  refine rr_top (y := bi true) (congrArg bi (inb_lt (by omega) (by omega))) ?_
  refine rb_if_ne (tgt := 26) hx hb dX4_lay_21 (by decide) (fun c21 => ?_) (fun c21 => ?_)
  rotate_left
  · exact absurd c21 (by decide)
  refine lv_aload_n hx hb dX4_lay_26 rfl (lv_at hl 0 rfl) ?_
  refine va_get (D := (dC, dI)) (ci := 4) (v := .ref b0) (C := RX4) (T := TX4) (N := 5) hx hb hts hiX4 hown hK hP 0 rfl rfl 1 (by decide) (hts (.fieldLink RX4 19 "RestRegisters" "now" "LRestRegisters$Bank;") (by decide +kernel)) (fun _ h9 => h9) rfl dX4_lay_27 ?_
  refine lv_iload_n hx hb dX4_lay_30 rfl (lv_at hl 1 rfl) ?_
  refine rr_callR (va_runV (As := [.int (nI r)]) (rest := []) ⟨hx, hb, hml, hown, hts⟩ (c_X0_value l dC dI cI cJ cS b0 h3 hk hw hs hrs hpr hpd n h rg sp dr kn nx kf wf sf Kd Wd Sh Rr Pr Pd r (by first | assumption | omega) (by first | assumption | omega) (by first | assumption | omega) (by first | assumption | omega) (by first | assumption | omega) (by first | assumption | omega) (by first | assumption | omega)) (cwV 1 hts gX4_lay_X0_value rfl rfl rfl (by decide +kernel) ⟨Nat.le_of_ble_eq_true rfl, Nat.le_of_ble_eq_true rfl⟩) (rr_preV hKK (hP.sub [1, 2, 3, 4, 5, 6, 7, 8] rfl) rfl rfl) rfl rfl hl.1 rfl (lv_room (Nat.le_of_ble_eq_true rfl)) dX4_lay_31 ⟨Nat.zero_le _, Nat.zero_le _⟩) ?_
  refine lv_istore_n (lv' := [(3, .int (nI (vR Sh Rr sp n r))), (0, .ref x0), (1, .int (nI r)), (2, .int (nI v))]) hx hb dX4_lay_34 rfl hl (by decide) rfl (fun ls hl => ?_)
  refine lv_aload_n hx hb dX4_lay_35 rfl (lv_at hl 1 rfl) ?_
  refine va_get (D := (dC, dI)) (ci := 4) (v := .ref b0) (C := RX4) (T := TX4) (N := 5) hx hb hts hiX4 hown hK hP 0 rfl rfl 1 (by decide) (hts (.fieldLink RX4 19 "RestRegisters" "now" "LRestRegisters$Bank;") (by decide +kernel)) (fun _ h9 => h9) rfl dX4_lay_36 ?_
  refine rw_callv (va_runV (As := []) (rest := []) ⟨hx, hb, hml, hown, hts⟩ (c_X0_remember l dC dI cI cJ cS _ b0 h3 hk hw hs hrs hpr hpd n h rg sp dr kn nx kf wf sf Kd Wd Sh Rr Pr Pd (by first | assumption | omega) (by first | assumption | omega)) (cwV 0 hts gX4_lay_X0_remember rfl rfl rfl (by decide +kernel) ⟨Nat.le_of_ble_eq_true rfl, Nat.le_of_ble_eq_true rfl⟩) (rw_preV hKK (hP.sub [1, 2, 3, 4, 5, 6, 7, 8] rfl) (hD.sub [1, 2, 3, 4, 5, 6, 7, 8] (by decide) rfl) rfl rfl) rfl rfl hl.1 rfl (lv_room (Nat.le_of_ble_eq_true rfl)) dX4_lay_39 ⟨Nat.zero_le _, Nat.zero_le _⟩) (wr := [(x0, .inr (4, [.ref t0, .ref b0, .ref k0, .int (bi im), .ref sa]))]) hP hD hS hA [1, 2, 3, 4, 5, 6, 7, 8] [0] rfl rfl (by decide) (by decide) (fun H locs hP hD hS => ?_)
  have hP : va_P (dC, dI) vwCl [(x0, .inr (4, [.ref t0, .ref b0, .ref k0, .int (bi im), .ref sa])), (b0, .inr (0, [.ref h3, .ref hrs, .int (nI dr), .int (nI (min (kn + 1) 8)), .int (nI ((nx + 1) % 8)), .ref hpr, .ref hpd])), (h3, .inr (3, [.int (nI n), .int (nI h), .int (nI rg), .int (nI sp), .ref hk, .ref hw, .ref hs])), (hk, .inl (cI, 6, .inl kf)), (hw, .inl (cI, 6, .inl wf)), (hs, .inl (cI, 6, .inl sf)), (hrs, .inl (cI, 24, .inl (nA Rr))), (hpr, .inl (cI, 192, .inl (nA (cpN Rr Pr 0 (nx * 24) 24)))), (hpd, .inl (cI, 8, .inl (nA (uN Pd nx dr))))] H := hP.sub [0, 1, 2, 3, 4, 5, 6, 7, 8] rfl
  have hD : va_D A [(x0, .inr (4, [.ref t0, .ref b0, .ref k0, .int (bi im), .ref sa])), (b0, .inr (0, [.ref h3, .ref hrs, .int (nI dr), .int (nI (min (kn + 1) 8)), .int (nI ((nx + 1) % 8)), .ref hpr, .ref hpd])), (h3, .inr (3, [.int (nI n), .int (nI h), .int (nI rg), .int (nI sp), .ref hk, .ref hw, .ref hs])), (hk, .inl (cI, 6, .inl kf)), (hw, .inl (cI, 6, .inl wf)), (hs, .inl (cI, 6, .inl sf)), (hrs, .inl (cI, 24, .inl (nA Rr))), (hpr, .inl (cI, 192, .inl (nA (cpN Rr Pr 0 (nx * 24) 24)))), (hpd, .inl (cI, 8, .inl (nA (uN Pd nx dr))))] := hD.sub [0, 1, 2, 3, 4, 5, 6, 7, 8] (by decide) rfl
  refine lv_aload_n hx hb dX4_lay_42 rfl (lv_at hl 1 rfl) ?_
  refine va_get (D := (dC, dI)) (ci := 4) (v := .ref b0) (C := RX4) (T := TX4) (N := 5) hx hb hts hiX4 hown hK hP 0 rfl rfl 1 (by decide) (hts (.fieldLink RX4 19 "RestRegisters" "now" "LRestRegisters$Bank;") (by decide +kernel)) (fun _ h9 => h9) rfl dX4_lay_43 ?_
  refine lv_iload_n hx hb dX4_lay_46 rfl (lv_at hl 2 rfl) ?_
  refine lv_iload_n hx hb dX4_lay_47 rfl (lv_at hl 3 rfl) ?_
  refine rw_callv (va_runV (As := [.int (nI r), .int (nI v)]) (rest := []) ⟨hx, hb, hml, hown, hts⟩ (c_X0_put l dC dI cI cJ cS _ b0 h3 hk hw hs hrs hpr hpd n h rg sp dr (min (kn + 1) 8) ((nx + 1) % 8) kf wf sf Kd Wd Sh Rr (cpN Rr Pr 0 (nx * 24) 24) (uN Pd nx dr) r v (by first | assumption | omega) (by first | assumption | omega) (by first | assumption | omega) (by first | assumption | omega)) (cwV 2 hts gX4_lay_X0_put rfl rfl rfl (by decide +kernel) ⟨Nat.le_of_ble_eq_true rfl, Nat.le_of_ble_eq_true rfl⟩) (rw_preV hKK (hP.sub [1, 2, 3, 4, 5, 6, 7, 8] rfl) (hD.sub [1, 2, 3, 4, 5, 6, 7, 8] (by decide) rfl) rfl rfl) rfl rfl hl.1 rfl (lv_room (Nat.le_of_ble_eq_true rfl)) dX4_lay_48 ⟨Nat.zero_le _, Nat.zero_le _⟩) (wr := [(x0, .inr (4, [.ref t0, .ref b0, .ref k0, .int (bi im), .ref sa]))]) hP hD hS hA [1, 2, 3, 4, 5, 6, 7, 8] [0] rfl rfl (by decide) (by decide) (fun H locs hP hD hS => ?_)
  have hP : va_P (dC, dI) vwCl [(x0, .inr (4, [.ref t0, .ref b0, .ref k0, .int (bi im), .ref sa])), (b0, .inr (0, [.ref h3, .ref hrs, .int (nI dr), .int (nI (min (kn + 1) 8)), .int (nI ((nx + 1) % 8)), .ref hpr, .ref hpd])), (h3, .inr (3, [.int (nI n), .int (nI h), .int (nI rg), .int (nI sp), .ref hk, .ref hw, .ref hs])), (hk, .inl (cI, 6, .inl kf)), (hw, .inl (cI, 6, .inl wf)), (hs, .inl (cI, 6, .inl sf)), (hrs, .inl (cI, 24, .inl (nA (rwN r (fun k => v % Wd k) n Rr)))), (hpr, .inl (cI, 192, .inl (nA (cpN Rr Pr 0 (nx * 24) 24)))), (hpd, .inl (cI, 8, .inl (nA (uN Pd nx dr))))] H := hP.sub [0, 1, 2, 3, 4, 5, 6, 7, 8] rfl
  have hD : va_D A [(x0, .inr (4, [.ref t0, .ref b0, .ref k0, .int (bi im), .ref sa])), (b0, .inr (0, [.ref h3, .ref hrs, .int (nI dr), .int (nI (min (kn + 1) 8)), .int (nI ((nx + 1) % 8)), .ref hpr, .ref hpd])), (h3, .inr (3, [.int (nI n), .int (nI h), .int (nI rg), .int (nI sp), .ref hk, .ref hw, .ref hs])), (hk, .inl (cI, 6, .inl kf)), (hw, .inl (cI, 6, .inl wf)), (hs, .inl (cI, 6, .inl sf)), (hrs, .inl (cI, 24, .inl (nA (rwN r (fun k => v % Wd k) n Rr)))), (hpr, .inl (cI, 192, .inl (nA (cpN Rr Pr 0 (nx * 24) 24)))), (hpd, .inl (cI, 8, .inl (nA (uN Pd nx dr))))] := hD.sub [0, 1, 2, 3, 4, 5, 6, 7, 8] (by decide) rfl
  refine lv_iload_n hx hb dX4_lay_51 rfl (lv_at hl 0 rfl) ?_
  exact rr_iretW hx hb hr hlocks dX4_lay_52 hP hD hS (rfl)
set_option maxHeartbeats 4000000 in
set_option maxRecDepth 100000 in
theorem c_X4_lay_b (l : Launch) (dC : Nat → ClassId) (dI : Nat → Nat → Nat) (cI cJ cS : ClassId) (x0 t0 k0 sa : Nat) (im : Bool) (b0 h3 hk hw hs hrs hpr hpd : Nat) (n h rg sp dr kn nx : Nat) (kf wf sf : Nat → Int32) (Kd Wd Sh Rr Pr Pd : Nat → Nat) (x y : Int32) (ok : wOk n Kd Wd) (fw : isA n wf Wd) (hsp : sp ≤ 47045881) (hbad : (inb x 4 && inb y sp) = false) : Met l yX4_lay wsX4_lay ({ frames := 2, cells := 0, slots := 0, locals := 80 }) (va_Pc [.ref x0, .int x, .int y] (rB (dC, dI) vwCl [(x0, .inr (4, [.ref t0, .ref b0, .ref k0, .int (bi im), .ref sa])), (b0, .inr (0, [.ref h3, .ref hrs, .int (nI dr), .int (nI kn), .int (nI nx), .ref hpr, .ref hpd])), (h3, .inr (3, [.int (nI n), .int (nI h), .int (nI rg), .int (nI sp), .ref hk, .ref hw, .ref hs])), (hk, .inl (cI, 6, .inl kf)), (hw, .inl (cI, 6, .inl wf)), (hs, .inl (cI, 6, .inl sf)), (hrs, .inl (cI, 24, .inl (nA Rr))), (hpr, .inl (cI, 192, .inl (nA Pr))), (hpd, .inl (cI, 8, .inl (nA Pd)))] (tyz cI cJ cS))) (QcRead (-1)) 0 0 (fun _ => False) := by
  refine Met.ofW (cc := cX4_lay) (maxL := 4) (ret := (some .int)) (by decide) rfl ?_
  intro p e s m args below meth c s₁ B hml hv
  obtain ⟨rfl, hP, hKK⟩ := hv
  have hK := hKK.1
  have hx := B.exec
  have hb := B.bytes
  have hr := B.returns
  have hts := atoms_spec (ws := wsX4_lay) B.pre
  have hown : s.vm.findClass RX4 = some m.cls := findClass_of_methodNamed B.named
  have hlocks := B.notSynchronized
  have hiX0 : ∀ w ∈ wsX00, w ∈ wsX4_lay := by decide +kernel
  have hiX3 : ∀ w ∈ wsX30, w ∈ wsX4_lay := by decide +kernel
  have hiX4 : ∀ w ∈ wsX40, w ∈ wsX4_lay := by decide +kernel
  have hl := lv_entry ([.ref x0, .int x, .int y]) (n := 4) (Nat.le_of_ble_eq_true rfl)
  rw [lg_entry_eq]
  generalize (lg_sl ([.ref x0, .int x, .int y]) ++ List.replicate (4 - (lg_sl ([.ref x0, .int x, .int y])).length) Slot.unset).toArray = ls at hl ⊢
  have hl : lv_has ls 4 [(0, .ref x0), (1, .int x), (2, .int y)] := hl
  have hn6 := ok.1
  refine lv_iload_n hx hb dX4_lay_0 rfl (lv_at hl 1 rfl) ?_
  refine rr_callR (va_runS (As := [.int x]) (rest := []) ⟨hx, hb, hml, hown, hts⟩ (c_X4_isRegister l x ) (va_cwS 1 hts gX4_lay_X4_isRegister rfl rfl rfl (by decide +kernel) ⟨Nat.le_of_ble_eq_true rfl, Nat.le_of_ble_eq_true rfl⟩) rr_preT rfl rfl hl.1 rfl (lv_room (Nat.le_of_ble_eq_true rfl)) dX4_lay_1 ⟨Nat.zero_le _, Nat.zero_le _⟩) ?_
  refine rb_if_eq (tgt := 24) hx hb dX4_lay_4 (by decide) (fun c4 => ?_) (fun c4 => ?_)
  · skip
    refine lv_iconst (v := (-1)) hx hb dX4_lay_24 (by decide) ?_
    exact rr_iret hx hb hr hlocks dX4_lay_25 (rfl)
  refine lv_iload_n hx hb dX4_lay_7 rfl (lv_at hl 2 rfl) ?_
  refine lv_aload_n hx hb dX4_lay_8 rfl (lv_at hl 0 rfl) ?_
  refine va_get (D := (dC, dI)) (ci := 4) (v := .ref b0) (C := RX4) (T := TX4) (N := 5) hx hb hts hiX4 hown hK hP 0 rfl rfl 1 (by decide) (hts (.fieldLink RX4 19 "RestRegisters" "now" "LRestRegisters$Bank;") (by decide +kernel)) (fun _ h9 => h9) rfl dX4_lay_9 ?_
  refine va_get (D := (dC, dI)) (ci := 0) (v := .ref h3) (C := RX0) (T := TX0) (N := 7) hx hb hts hiX0 hown hK hP 1 rfl rfl 0 (by decide) (hts (.fieldLink RX4 61 "RestRegisters$Bank" "wheels" "LRestRegisters$Wheels;") (by decide +kernel)) (fun _ h9 => h9) rfl dX4_lay_12 ?_
  refine va_get (D := (dC, dI)) (ci := 3) (v := .int (nI sp)) (C := RX3) (T := TX3) (N := 7) hx hb hts hiX3 hown hK hP 2 rfl rfl 3 (by decide) (hts (.fieldLink RX4 110 "RestRegisters$Wheels" "span" "I") (by decide +kernel)) (fun _ h9 => h9) rfl dX4_lay_15 ?_
  refine rr_callR (va_runS (As := [.int y, .int (nI sp)]) (rest := []) ⟨hx, hb, hml, hown, hts⟩ (c_X4_isBelow l y sp (by first | assumption | omega)) (va_cwS 2 hts gX4_lay_X4_isBelow rfl rfl rfl (by decide +kernel) ⟨Nat.le_of_ble_eq_true rfl, Nat.le_of_ble_eq_true rfl⟩) rr_preT rfl rfl hl.1 rfl (lv_room (Nat.le_of_ble_eq_true rfl)) dX4_lay_18 ⟨Nat.zero_le _, Nat.zero_le _⟩) ?_
  refine rb_if_ne (tgt := 26) hx hb dX4_lay_21 (by decide) (fun c21 => ?_) (fun c21 => ?_)
  · skip
    exact absurd hbad (by rw [c4, c21]; decide)
  refine lv_iconst (v := (-1)) hx hb dX4_lay_24 (by decide) ?_
  exact rr_iret hx hb hr hlocks dX4_lay_25 (rfl)
set_option maxHeartbeats 4000000 in
set_option maxRecDepth 100000 in
theorem c_X4_add_g (l : Launch) (dC : Nat → ClassId) (dI : Nat → Nat → Nat) (cI cJ cS : ClassId) (sz : Nat) (x0 t0 k0 sa : Nat) (im : Bool) (b0 h3 hk hw hs hrs hpr hpd : Nat) (n h rg sp dr kn nx : Nat) (kf wf sf : Nat → Int32) (Kd Wd Sh Rr Pr Pd : Nat → Nat) (r o : Nat) (ok : wOk n Kd Wd) (fk : isA n kf Kd) (fw : isA n wf Wd) (fs : isA n sf Sh) (hS : ∀ j, j < n → Sh j < sp) (hsp : sp ≤ 47045881) (hsp0 : 0 < sp) (hR : rOk n Wd Rr) (hrg : rg < 2 ^ 31) (hnx : nx < 8) (hkn : kn ≤ 8) (hr4 : r < 4) (ho4 : o < 4) : Met l yX4_add wsX4_add ({ frames := 5, cells := 0, slots := 0, locals := 115 }) (va_Pc [.ref x0, .int (nI r), .int (nI o)] (rW (dC, dI) vwCl [(x0, .inr (4, [.ref t0, .ref b0, .ref k0, .int (bi im), .ref sa])), (b0, .inr (0, [.ref h3, .ref hrs, .int (nI dr), .int (nI kn), .int (nI nx), .ref hpr, .ref hpd])), (h3, .inr (3, [.int (nI n), .int (nI h), .int (nI rg), .int (nI sp), .ref hk, .ref hw, .ref hs])), (hk, .inl (cI, 6, .inl kf)), (hw, .inl (cI, 6, .inl wf)), (hs, .inl (cI, 6, .inl sf)), (hrs, .inl (cI, 24, .inl (nA Rr))), (hpr, .inl (cI, 192, .inl (nA Pr))), (hpd, .inl (cI, 8, .inl (nA Pd)))] (tyz cI cJ cS) sz)) (qI (nI (vR Sh (rwN r (adF Kd Wd Rr r o) n Rr) sp n r)) (dC, dI) vwCl [(x0, .inr (4, [.ref t0, .ref b0, .ref k0, .int (bi im), .ref sa])), (b0, .inr (0, [.ref h3, .ref hrs, .int (nI dr), .int (nI (min (kn + 1) 8)), .int (nI ((nx + 1) % 8)), .ref hpr, .ref hpd])), (h3, .inr (3, [.int (nI n), .int (nI h), .int (nI rg), .int (nI sp), .ref hk, .ref hw, .ref hs])), (hk, .inl (cI, 6, .inl kf)), (hw, .inl (cI, 6, .inl wf)), (hs, .inl (cI, 6, .inl sf)), (hrs, .inl (cI, 24, .inl (nA (rwN r (adF Kd Wd Rr r o) n Rr)))), (hpr, .inl (cI, 192, .inl (nA (cpN Rr Pr 0 (nx * 24) 24)))), (hpd, .inl (cI, 8, .inl (nA (uN Pd nx dr))))] (va_A [(x0, .inr (4, [.ref t0, .ref b0, .ref k0, .int (bi im), .ref sa])), (b0, .inr (0, [.ref h3, .ref hrs, .int (nI dr), .int (nI kn), .int (nI nx), .ref hpr, .ref hpd])), (h3, .inr (3, [.int (nI n), .int (nI h), .int (nI rg), .int (nI sp), .ref hk, .ref hw, .ref hs])), (hk, .inl (cI, 6, .inl kf)), (hw, .inl (cI, 6, .inl wf)), (hs, .inl (cI, 6, .inl sf)), (hrs, .inl (cI, 24, .inl (nA Rr))), (hpr, .inl (cI, 192, .inl (nA Pr))), (hpd, .inl (cI, 8, .inl (nA Pd)))] sz)) 0 0 (va_A [(x0, .inr (4, [.ref t0, .ref b0, .ref k0, .int (bi im), .ref sa])), (b0, .inr (0, [.ref h3, .ref hrs, .int (nI dr), .int (nI kn), .int (nI nx), .ref hpr, .ref hpd])), (h3, .inr (3, [.int (nI n), .int (nI h), .int (nI rg), .int (nI sp), .ref hk, .ref hw, .ref hs])), (hk, .inl (cI, 6, .inl kf)), (hw, .inl (cI, 6, .inl wf)), (hs, .inl (cI, 6, .inl sf)), (hrs, .inl (cI, 24, .inl (nA Rr))), (hpr, .inl (cI, 192, .inl (nA Pr))), (hpd, .inl (cI, 8, .inl (nA Pd)))] sz) := by
  refine Met.ofW (cc := cX4_add) (maxL := 3) (ret := (some .int)) (by decide) rfl ?_
  intro p e s m args below meth c s₁ B hml hv
  obtain ⟨rfl, hsz, hP, hKK, hD0⟩ := hv
  have hK := hKK.1
  have hx := B.exec
  have hb := B.bytes
  have hr := B.returns
  have hts := atoms_spec (ws := wsX4_add) B.pre
  have hown : s.vm.findClass RX4 = some m.cls := findClass_of_methodNamed B.named
  have hlocks := B.notSynchronized
  subst hsz
  have hD := hD0.self (sz := s.heap.size)
  generalize hAe : va_A [(x0, .inr (4, [.ref t0, .ref b0, .ref k0, .int (bi im), .ref sa])), (b0, .inr (0, [.ref h3, .ref hrs, .int (nI dr), .int (nI kn), .int (nI nx), .ref hpr, .ref hpd])), (h3, .inr (3, [.int (nI n), .int (nI h), .int (nI rg), .int (nI sp), .ref hk, .ref hw, .ref hs])), (hk, .inl (cI, 6, .inl kf)), (hw, .inl (cI, 6, .inl wf)), (hs, .inl (cI, 6, .inl sf)), (hrs, .inl (cI, 24, .inl (nA Rr))), (hpr, .inl (cI, 192, .inl (nA Pr))), (hpd, .inl (cI, 8, .inl (nA Pd)))] s.heap.size = A at hD ⊢
  have hA : ∀ q : Nat, s.heap.size ≤ q → A q := fun q h => by rw [← hAe]; exact Or.inr h
  have hS : va_S A s.heap s.heap [] := va_S.rf
  have hP : va_P (dC, dI) vwCl [(x0, .inr (4, [.ref t0, .ref b0, .ref k0, .int (bi im), .ref sa])), (b0, .inr (0, [.ref h3, .ref hrs, .int (nI dr), .int (nI kn), .int (nI nx), .ref hpr, .ref hpd])), (h3, .inr (3, [.int (nI n), .int (nI h), .int (nI rg), .int (nI sp), .ref hk, .ref hw, .ref hs])), (hk, .inl (cI, 6, .inl kf)), (hw, .inl (cI, 6, .inl wf)), (hs, .inl (cI, 6, .inl sf)), (hrs, .inl (cI, 24, .inl (nA Rr))), (hpr, .inl (cI, 192, .inl (nA Pr))), (hpd, .inl (cI, 8, .inl (nA Pd)))] s.heap := hP
  have hiX4 : ∀ w ∈ wsX40, w ∈ wsX4_add := by decide +kernel
  have hl := lv_entry ([.ref x0, .int (nI r), .int (nI o)]) (n := 3) (Nat.le_of_ble_eq_true rfl)
  rw [lg_entry_eq]
  generalize (lg_sl ([.ref x0, .int (nI r), .int (nI o)]) ++ List.replicate (3 - (lg_sl ([.ref x0, .int (nI r), .int (nI o)])).length) Slot.unset).toArray = ls at hl ⊢
  have hl : lv_has ls 3 [(0, .ref x0), (1, .int (nI r)), (2, .int (nI o))] := hl
  have hn6 := ok.1
  refine lv_iload_n hx hb dX4_add_0 rfl (lv_at hl 1 rfl) ?_
  refine rr_callR (va_runS (As := [.int (nI r)]) (rest := []) ⟨hx, hb, hml, hown, hts⟩ (c_X4_isRegister l (nI r) ) (va_cwS 1 hts gX4_add_X4_isRegister rfl rfl rfl (by decide +kernel) ⟨Nat.le_of_ble_eq_true rfl, Nat.le_of_ble_eq_true rfl⟩) rr_preT rfl rfl hl.1 rfl (lv_room (Nat.le_of_ble_eq_true rfl)) dX4_add_1 ⟨Nat.zero_le _, Nat.zero_le _⟩) ?_
  refine rr_top (y := bi true) (congrArg bi (inb_lt (by omega) (by omega))) ?_
  refine rb_if_eq (tgt := 14) hx hb dX4_add_4 (by decide) (fun c4 => ?_) (fun c4 => ?_)
  · exact absurd c4 (by decide)
  refine lv_iload_n hx hb dX4_add_7 rfl (lv_at hl 2 rfl) ?_
  refine rr_callR (va_runS (As := [.int (nI o)]) (rest := []) ⟨hx, hb, hml, hown, hts⟩ (c_X4_isRegister l (nI o) ) (va_cwS 1 hts gX4_add_X4_isRegister rfl rfl rfl (by decide +kernel) ⟨Nat.le_of_ble_eq_true rfl, Nat.le_of_ble_eq_true rfl⟩) rr_preT rfl rfl hl.1 rfl (lv_room (Nat.le_of_ble_eq_true rfl)) dX4_add_8 ⟨Nat.zero_le _, Nat.zero_le _⟩) ?_
  refine rr_top (y := bi true) (congrArg bi (inb_lt (by omega) (by omega))) ?_
  refine rb_if_ne (tgt := 16) hx hb dX4_add_11 (by decide) (fun c11 => ?_) (fun c11 => ?_)
  rotate_left
  · exact absurd c11 (by decide)
  refine lv_aload_n hx hb dX4_add_16 rfl (lv_at hl 0 rfl) ?_
  refine va_get (D := (dC, dI)) (ci := 4) (v := .ref b0) (C := RX4) (T := TX4) (N := 5) hx hb hts hiX4 hown hK hP 0 rfl rfl 1 (by decide) (hts (.fieldLink RX4 19 "RestRegisters" "now" "LRestRegisters$Bank;") (by decide +kernel)) (fun _ h9 => h9) rfl dX4_add_17 ?_
  refine rw_callv (va_runV (As := []) (rest := []) ⟨hx, hb, hml, hown, hts⟩ (c_X0_remember l dC dI cI cJ cS _ b0 h3 hk hw hs hrs hpr hpd n h rg sp dr kn nx kf wf sf Kd Wd Sh Rr Pr Pd (by first | assumption | omega) (by first | assumption | omega)) (cwV 0 hts gX4_add_X0_remember rfl rfl rfl (by decide +kernel) ⟨Nat.le_of_ble_eq_true rfl, Nat.le_of_ble_eq_true rfl⟩) (rw_preV hKK (hP.sub [1, 2, 3, 4, 5, 6, 7, 8] rfl) (hD.sub [1, 2, 3, 4, 5, 6, 7, 8] (by decide) rfl) rfl rfl) rfl rfl hl.1 rfl (lv_room (Nat.le_of_ble_eq_true rfl)) dX4_add_20 ⟨Nat.zero_le _, Nat.zero_le _⟩) (wr := [(x0, .inr (4, [.ref t0, .ref b0, .ref k0, .int (bi im), .ref sa]))]) hP hD hS hA [1, 2, 3, 4, 5, 6, 7, 8] [0] rfl rfl (by decide) (by decide) (fun H locs hP hD hS => ?_)
  have hP : va_P (dC, dI) vwCl [(x0, .inr (4, [.ref t0, .ref b0, .ref k0, .int (bi im), .ref sa])), (b0, .inr (0, [.ref h3, .ref hrs, .int (nI dr), .int (nI (min (kn + 1) 8)), .int (nI ((nx + 1) % 8)), .ref hpr, .ref hpd])), (h3, .inr (3, [.int (nI n), .int (nI h), .int (nI rg), .int (nI sp), .ref hk, .ref hw, .ref hs])), (hk, .inl (cI, 6, .inl kf)), (hw, .inl (cI, 6, .inl wf)), (hs, .inl (cI, 6, .inl sf)), (hrs, .inl (cI, 24, .inl (nA Rr))), (hpr, .inl (cI, 192, .inl (nA (cpN Rr Pr 0 (nx * 24) 24)))), (hpd, .inl (cI, 8, .inl (nA (uN Pd nx dr))))] H := hP.sub [0, 1, 2, 3, 4, 5, 6, 7, 8] rfl
  have hD : va_D A [(x0, .inr (4, [.ref t0, .ref b0, .ref k0, .int (bi im), .ref sa])), (b0, .inr (0, [.ref h3, .ref hrs, .int (nI dr), .int (nI (min (kn + 1) 8)), .int (nI ((nx + 1) % 8)), .ref hpr, .ref hpd])), (h3, .inr (3, [.int (nI n), .int (nI h), .int (nI rg), .int (nI sp), .ref hk, .ref hw, .ref hs])), (hk, .inl (cI, 6, .inl kf)), (hw, .inl (cI, 6, .inl wf)), (hs, .inl (cI, 6, .inl sf)), (hrs, .inl (cI, 24, .inl (nA Rr))), (hpr, .inl (cI, 192, .inl (nA (cpN Rr Pr 0 (nx * 24) 24)))), (hpd, .inl (cI, 8, .inl (nA (uN Pd nx dr))))] := hD.sub [0, 1, 2, 3, 4, 5, 6, 7, 8] (by decide) rfl
  refine lv_aload_n hx hb dX4_add_23 rfl (lv_at hl 0 rfl) ?_
  refine va_get (D := (dC, dI)) (ci := 4) (v := .ref b0) (C := RX4) (T := TX4) (N := 5) hx hb hts hiX4 hown hK hP 0 rfl rfl 1 (by decide) (hts (.fieldLink RX4 19 "RestRegisters" "now" "LRestRegisters$Bank;") (by decide +kernel)) (fun _ h9 => h9) rfl dX4_add_24 ?_
  refine lv_iload_n hx hb dX4_add_27 rfl (lv_at hl 1 rfl) ?_
  refine lv_iload_n hx hb dX4_add_28 rfl (lv_at hl 2 rfl) ?_
  refine rw_callv (va_runV (As := [.int (nI r), .int (nI o)]) (rest := []) ⟨hx, hb, hml, hown, hts⟩ (c_X0_addTo l dC dI cI cJ cS _ b0 h3 hk hw hs hrs hpr hpd n h rg sp dr (min (kn + 1) 8) ((nx + 1) % 8) kf wf sf Kd Wd Sh Rr (cpN Rr Pr 0 (nx * 24) 24) (uN Pd nx dr) r o (by first | assumption | omega) (by first | assumption | omega) (by first | assumption | omega) (by first | assumption | omega) (by first | assumption | omega) (by first | assumption | omega)) (cwV 2 hts gX4_add_X0_addTo rfl rfl rfl (by decide +kernel) ⟨Nat.le_of_ble_eq_true rfl, Nat.le_of_ble_eq_true rfl⟩) (rw_preV hKK (hP.sub [1, 2, 3, 4, 5, 6, 7, 8] rfl) (hD.sub [1, 2, 3, 4, 5, 6, 7, 8] (by decide) rfl) rfl rfl) rfl rfl hl.1 rfl (lv_room (Nat.le_of_ble_eq_true rfl)) dX4_add_29 ⟨Nat.zero_le _, Nat.zero_le _⟩) (wr := [(x0, .inr (4, [.ref t0, .ref b0, .ref k0, .int (bi im), .ref sa]))]) hP hD hS hA [1, 2, 3, 4, 5, 6, 7, 8] [0] rfl rfl (by decide) (by decide) (fun H locs hP hD hS => ?_)
  have hP : va_P (dC, dI) vwCl [(x0, .inr (4, [.ref t0, .ref b0, .ref k0, .int (bi im), .ref sa])), (b0, .inr (0, [.ref h3, .ref hrs, .int (nI dr), .int (nI (min (kn + 1) 8)), .int (nI ((nx + 1) % 8)), .ref hpr, .ref hpd])), (h3, .inr (3, [.int (nI n), .int (nI h), .int (nI rg), .int (nI sp), .ref hk, .ref hw, .ref hs])), (hk, .inl (cI, 6, .inl kf)), (hw, .inl (cI, 6, .inl wf)), (hs, .inl (cI, 6, .inl sf)), (hrs, .inl (cI, 24, .inl (nA (rwN r (adF Kd Wd Rr r o) n Rr)))), (hpr, .inl (cI, 192, .inl (nA (cpN Rr Pr 0 (nx * 24) 24)))), (hpd, .inl (cI, 8, .inl (nA (uN Pd nx dr))))] H := hP.sub [0, 1, 2, 3, 4, 5, 6, 7, 8] rfl
  have hD : va_D A [(x0, .inr (4, [.ref t0, .ref b0, .ref k0, .int (bi im), .ref sa])), (b0, .inr (0, [.ref h3, .ref hrs, .int (nI dr), .int (nI (min (kn + 1) 8)), .int (nI ((nx + 1) % 8)), .ref hpr, .ref hpd])), (h3, .inr (3, [.int (nI n), .int (nI h), .int (nI rg), .int (nI sp), .ref hk, .ref hw, .ref hs])), (hk, .inl (cI, 6, .inl kf)), (hw, .inl (cI, 6, .inl wf)), (hs, .inl (cI, 6, .inl sf)), (hrs, .inl (cI, 24, .inl (nA (rwN r (adF Kd Wd Rr r o) n Rr)))), (hpr, .inl (cI, 192, .inl (nA (cpN Rr Pr 0 (nx * 24) 24)))), (hpd, .inl (cI, 8, .inl (nA (uN Pd nx dr))))] := hD.sub [0, 1, 2, 3, 4, 5, 6, 7, 8] (by decide) rfl
  refine lv_aload_n hx hb dX4_add_32 rfl (lv_at hl 0 rfl) ?_
  refine va_get (D := (dC, dI)) (ci := 4) (v := .ref b0) (C := RX4) (T := TX4) (N := 5) hx hb hts hiX4 hown hK hP 0 rfl rfl 1 (by decide) (hts (.fieldLink RX4 19 "RestRegisters" "now" "LRestRegisters$Bank;") (by decide +kernel)) (fun _ h9 => h9) rfl dX4_add_33 ?_
  refine lv_iload_n hx hb dX4_add_36 rfl (lv_at hl 1 rfl) ?_
  refine rr_callR (va_runV (As := [.int (nI r)]) (rest := []) ⟨hx, hb, hml, hown, hts⟩ (c_X0_value l dC dI cI cJ cS b0 h3 hk hw hs hrs hpr hpd n h rg sp dr (min (kn + 1) 8) ((nx + 1) % 8) kf wf sf Kd Wd Sh (rwN r (adF Kd Wd Rr r o) n Rr) (cpN Rr Pr 0 (nx * 24) 24) (uN Pd nx dr) r (by first | assumption | omega) (by first | assumption | omega) (by first | assumption | omega) (by first | assumption | omega) (by first | assumption | omega) (rOk_rw hR hn6 (adF_lt hR hr4 ho4)) (by first | assumption | omega)) (cwV 1 hts gX4_add_X0_value rfl rfl rfl (by decide +kernel) ⟨Nat.le_of_ble_eq_true rfl, Nat.le_of_ble_eq_true rfl⟩) (rr_preV hKK (hP.sub [1, 2, 3, 4, 5, 6, 7, 8] rfl) rfl rfl) rfl rfl hl.1 rfl (lv_room (Nat.le_of_ble_eq_true rfl)) dX4_add_37 ⟨Nat.zero_le _, Nat.zero_le _⟩) ?_
  exact rr_iretW hx hb hr hlocks dX4_add_40 hP hD hS (rfl)
set_option maxHeartbeats 4000000 in
set_option maxRecDepth 100000 in
theorem c_X4_times_g (l : Launch) (dC : Nat → ClassId) (dI : Nat → Nat → Nat) (cI cJ cS : ClassId) (sz : Nat) (x0 t0 k0 sa : Nat) (im : Bool) (b0 h3 hk hw hs hrs hpr hpd : Nat) (n h rg sp dr kn nx : Nat) (kf wf sf : Nat → Int32) (Kd Wd Sh Rr Pr Pd : Nat → Nat) (r o : Nat) (ok : wOk n Kd Wd) (fk : isA n kf Kd) (fw : isA n wf Wd) (fs : isA n sf Sh) (hS : ∀ j, j < n → Sh j < sp) (hsp : sp ≤ 47045881) (hsp0 : 0 < sp) (hR : rOk n Wd Rr) (hrg : rg < 2 ^ 31) (hnx : nx < 8) (hkn : kn ≤ 8) (hr4 : r < 4) (ho4 : o < 4) : Met l yX4_times wsX4_times ({ frames := 7, cells := 0, slots := 0, locals := 164 }) (va_Pc [.ref x0, .int (nI r), .int (nI o)] (rW (dC, dI) vwCl [(x0, .inr (4, [.ref t0, .ref b0, .ref k0, .int (bi im), .ref sa])), (b0, .inr (0, [.ref h3, .ref hrs, .int (nI dr), .int (nI kn), .int (nI nx), .ref hpr, .ref hpd])), (h3, .inr (3, [.int (nI n), .int (nI h), .int (nI rg), .int (nI sp), .ref hk, .ref hw, .ref hs])), (hk, .inl (cI, 6, .inl kf)), (hw, .inl (cI, 6, .inl wf)), (hs, .inl (cI, 6, .inl sf)), (hrs, .inl (cI, 24, .inl (nA Rr))), (hpr, .inl (cI, 192, .inl (nA Pr))), (hpd, .inl (cI, 8, .inl (nA Pd)))] (tyz cI cJ cS) sz)) (qI (nI (vR Sh (rwN r (muF Kd Wd Rr r o) n Rr) sp n r)) (dC, dI) vwCl [(x0, .inr (4, [.ref t0, .ref b0, .ref k0, .int (bi im), .ref sa])), (b0, .inr (0, [.ref h3, .ref hrs, .int (nI dr), .int (nI (min (kn + 1) 8)), .int (nI ((nx + 1) % 8)), .ref hpr, .ref hpd])), (h3, .inr (3, [.int (nI n), .int (nI h), .int (nI rg), .int (nI sp), .ref hk, .ref hw, .ref hs])), (hk, .inl (cI, 6, .inl kf)), (hw, .inl (cI, 6, .inl wf)), (hs, .inl (cI, 6, .inl sf)), (hrs, .inl (cI, 24, .inl (nA (rwN r (muF Kd Wd Rr r o) n Rr)))), (hpr, .inl (cI, 192, .inl (nA (cpN Rr Pr 0 (nx * 24) 24)))), (hpd, .inl (cI, 8, .inl (nA (uN Pd nx dr))))] (va_A [(x0, .inr (4, [.ref t0, .ref b0, .ref k0, .int (bi im), .ref sa])), (b0, .inr (0, [.ref h3, .ref hrs, .int (nI dr), .int (nI kn), .int (nI nx), .ref hpr, .ref hpd])), (h3, .inr (3, [.int (nI n), .int (nI h), .int (nI rg), .int (nI sp), .ref hk, .ref hw, .ref hs])), (hk, .inl (cI, 6, .inl kf)), (hw, .inl (cI, 6, .inl wf)), (hs, .inl (cI, 6, .inl sf)), (hrs, .inl (cI, 24, .inl (nA Rr))), (hpr, .inl (cI, 192, .inl (nA Pr))), (hpd, .inl (cI, 8, .inl (nA Pd)))] sz)) 0 0 (va_A [(x0, .inr (4, [.ref t0, .ref b0, .ref k0, .int (bi im), .ref sa])), (b0, .inr (0, [.ref h3, .ref hrs, .int (nI dr), .int (nI kn), .int (nI nx), .ref hpr, .ref hpd])), (h3, .inr (3, [.int (nI n), .int (nI h), .int (nI rg), .int (nI sp), .ref hk, .ref hw, .ref hs])), (hk, .inl (cI, 6, .inl kf)), (hw, .inl (cI, 6, .inl wf)), (hs, .inl (cI, 6, .inl sf)), (hrs, .inl (cI, 24, .inl (nA Rr))), (hpr, .inl (cI, 192, .inl (nA Pr))), (hpd, .inl (cI, 8, .inl (nA Pd)))] sz) := by
  refine Met.ofW (cc := cX4_times) (maxL := 3) (ret := (some .int)) (by decide) rfl ?_
  intro p e s m args below meth c s₁ B hml hv
  obtain ⟨rfl, hsz, hP, hKK, hD0⟩ := hv
  have hK := hKK.1
  have hx := B.exec
  have hb := B.bytes
  have hr := B.returns
  have hts := atoms_spec (ws := wsX4_times) B.pre
  have hown : s.vm.findClass RX4 = some m.cls := findClass_of_methodNamed B.named
  have hlocks := B.notSynchronized
  subst hsz
  have hD := hD0.self (sz := s.heap.size)
  generalize hAe : va_A [(x0, .inr (4, [.ref t0, .ref b0, .ref k0, .int (bi im), .ref sa])), (b0, .inr (0, [.ref h3, .ref hrs, .int (nI dr), .int (nI kn), .int (nI nx), .ref hpr, .ref hpd])), (h3, .inr (3, [.int (nI n), .int (nI h), .int (nI rg), .int (nI sp), .ref hk, .ref hw, .ref hs])), (hk, .inl (cI, 6, .inl kf)), (hw, .inl (cI, 6, .inl wf)), (hs, .inl (cI, 6, .inl sf)), (hrs, .inl (cI, 24, .inl (nA Rr))), (hpr, .inl (cI, 192, .inl (nA Pr))), (hpd, .inl (cI, 8, .inl (nA Pd)))] s.heap.size = A at hD ⊢
  have hA : ∀ q : Nat, s.heap.size ≤ q → A q := fun q h => by rw [← hAe]; exact Or.inr h
  have hS : va_S A s.heap s.heap [] := va_S.rf
  have hP : va_P (dC, dI) vwCl [(x0, .inr (4, [.ref t0, .ref b0, .ref k0, .int (bi im), .ref sa])), (b0, .inr (0, [.ref h3, .ref hrs, .int (nI dr), .int (nI kn), .int (nI nx), .ref hpr, .ref hpd])), (h3, .inr (3, [.int (nI n), .int (nI h), .int (nI rg), .int (nI sp), .ref hk, .ref hw, .ref hs])), (hk, .inl (cI, 6, .inl kf)), (hw, .inl (cI, 6, .inl wf)), (hs, .inl (cI, 6, .inl sf)), (hrs, .inl (cI, 24, .inl (nA Rr))), (hpr, .inl (cI, 192, .inl (nA Pr))), (hpd, .inl (cI, 8, .inl (nA Pd)))] s.heap := hP
  have hiX4 : ∀ w ∈ wsX40, w ∈ wsX4_times := by decide +kernel
  have hl := lv_entry ([.ref x0, .int (nI r), .int (nI o)]) (n := 3) (Nat.le_of_ble_eq_true rfl)
  rw [lg_entry_eq]
  generalize (lg_sl ([.ref x0, .int (nI r), .int (nI o)]) ++ List.replicate (3 - (lg_sl ([.ref x0, .int (nI r), .int (nI o)])).length) Slot.unset).toArray = ls at hl ⊢
  have hl : lv_has ls 3 [(0, .ref x0), (1, .int (nI r)), (2, .int (nI o))] := hl
  have hn6 := ok.1
  refine lv_iload_n hx hb dX4_times_0 rfl (lv_at hl 1 rfl) ?_
  refine rr_callR (va_runS (As := [.int (nI r)]) (rest := []) ⟨hx, hb, hml, hown, hts⟩ (c_X4_isRegister l (nI r) ) (va_cwS 1 hts gX4_times_X4_isRegister rfl rfl rfl (by decide +kernel) ⟨Nat.le_of_ble_eq_true rfl, Nat.le_of_ble_eq_true rfl⟩) rr_preT rfl rfl hl.1 rfl (lv_room (Nat.le_of_ble_eq_true rfl)) dX4_times_1 ⟨Nat.zero_le _, Nat.zero_le _⟩) ?_
  refine rr_top (y := bi true) (congrArg bi (inb_lt (by omega) (by omega))) ?_
  refine rb_if_eq (tgt := 14) hx hb dX4_times_4 (by decide) (fun c4 => ?_) (fun c4 => ?_)
  · exact absurd c4 (by decide)
  refine lv_iload_n hx hb dX4_times_7 rfl (lv_at hl 2 rfl) ?_
  refine rr_callR (va_runS (As := [.int (nI o)]) (rest := []) ⟨hx, hb, hml, hown, hts⟩ (c_X4_isRegister l (nI o) ) (va_cwS 1 hts gX4_times_X4_isRegister rfl rfl rfl (by decide +kernel) ⟨Nat.le_of_ble_eq_true rfl, Nat.le_of_ble_eq_true rfl⟩) rr_preT rfl rfl hl.1 rfl (lv_room (Nat.le_of_ble_eq_true rfl)) dX4_times_8 ⟨Nat.zero_le _, Nat.zero_le _⟩) ?_
  refine rr_top (y := bi true) (congrArg bi (inb_lt (by omega) (by omega))) ?_
  refine rb_if_ne (tgt := 16) hx hb dX4_times_11 (by decide) (fun c11 => ?_) (fun c11 => ?_)
  rotate_left
  · exact absurd c11 (by decide)
  refine lv_aload_n hx hb dX4_times_16 rfl (lv_at hl 0 rfl) ?_
  refine va_get (D := (dC, dI)) (ci := 4) (v := .ref b0) (C := RX4) (T := TX4) (N := 5) hx hb hts hiX4 hown hK hP 0 rfl rfl 1 (by decide) (hts (.fieldLink RX4 19 "RestRegisters" "now" "LRestRegisters$Bank;") (by decide +kernel)) (fun _ h9 => h9) rfl dX4_times_17 ?_
  refine rw_callv (va_runV (As := []) (rest := []) ⟨hx, hb, hml, hown, hts⟩ (c_X0_remember l dC dI cI cJ cS _ b0 h3 hk hw hs hrs hpr hpd n h rg sp dr kn nx kf wf sf Kd Wd Sh Rr Pr Pd (by first | assumption | omega) (by first | assumption | omega)) (cwV 0 hts gX4_times_X0_remember rfl rfl rfl (by decide +kernel) ⟨Nat.le_of_ble_eq_true rfl, Nat.le_of_ble_eq_true rfl⟩) (rw_preV hKK (hP.sub [1, 2, 3, 4, 5, 6, 7, 8] rfl) (hD.sub [1, 2, 3, 4, 5, 6, 7, 8] (by decide) rfl) rfl rfl) rfl rfl hl.1 rfl (lv_room (Nat.le_of_ble_eq_true rfl)) dX4_times_20 ⟨Nat.zero_le _, Nat.zero_le _⟩) (wr := [(x0, .inr (4, [.ref t0, .ref b0, .ref k0, .int (bi im), .ref sa]))]) hP hD hS hA [1, 2, 3, 4, 5, 6, 7, 8] [0] rfl rfl (by decide) (by decide) (fun H locs hP hD hS => ?_)
  have hP : va_P (dC, dI) vwCl [(x0, .inr (4, [.ref t0, .ref b0, .ref k0, .int (bi im), .ref sa])), (b0, .inr (0, [.ref h3, .ref hrs, .int (nI dr), .int (nI (min (kn + 1) 8)), .int (nI ((nx + 1) % 8)), .ref hpr, .ref hpd])), (h3, .inr (3, [.int (nI n), .int (nI h), .int (nI rg), .int (nI sp), .ref hk, .ref hw, .ref hs])), (hk, .inl (cI, 6, .inl kf)), (hw, .inl (cI, 6, .inl wf)), (hs, .inl (cI, 6, .inl sf)), (hrs, .inl (cI, 24, .inl (nA Rr))), (hpr, .inl (cI, 192, .inl (nA (cpN Rr Pr 0 (nx * 24) 24)))), (hpd, .inl (cI, 8, .inl (nA (uN Pd nx dr))))] H := hP.sub [0, 1, 2, 3, 4, 5, 6, 7, 8] rfl
  have hD : va_D A [(x0, .inr (4, [.ref t0, .ref b0, .ref k0, .int (bi im), .ref sa])), (b0, .inr (0, [.ref h3, .ref hrs, .int (nI dr), .int (nI (min (kn + 1) 8)), .int (nI ((nx + 1) % 8)), .ref hpr, .ref hpd])), (h3, .inr (3, [.int (nI n), .int (nI h), .int (nI rg), .int (nI sp), .ref hk, .ref hw, .ref hs])), (hk, .inl (cI, 6, .inl kf)), (hw, .inl (cI, 6, .inl wf)), (hs, .inl (cI, 6, .inl sf)), (hrs, .inl (cI, 24, .inl (nA Rr))), (hpr, .inl (cI, 192, .inl (nA (cpN Rr Pr 0 (nx * 24) 24)))), (hpd, .inl (cI, 8, .inl (nA (uN Pd nx dr))))] := hD.sub [0, 1, 2, 3, 4, 5, 6, 7, 8] (by decide) rfl
  refine lv_aload_n hx hb dX4_times_23 rfl (lv_at hl 0 rfl) ?_
  refine va_get (D := (dC, dI)) (ci := 4) (v := .ref b0) (C := RX4) (T := TX4) (N := 5) hx hb hts hiX4 hown hK hP 0 rfl rfl 1 (by decide) (hts (.fieldLink RX4 19 "RestRegisters" "now" "LRestRegisters$Bank;") (by decide +kernel)) (fun _ h9 => h9) rfl dX4_times_24 ?_
  refine lv_iload_n hx hb dX4_times_27 rfl (lv_at hl 1 rfl) ?_
  refine lv_iload_n hx hb dX4_times_28 rfl (lv_at hl 2 rfl) ?_
  refine rw_callv (va_runV (As := [.int (nI r), .int (nI o)]) (rest := []) ⟨hx, hb, hml, hown, hts⟩ (c_X0_multiplyBy l dC dI cI cJ cS _ b0 h3 hk hw hs hrs hpr hpd n h rg sp dr (min (kn + 1) 8) ((nx + 1) % 8) kf wf sf Kd Wd Sh Rr (cpN Rr Pr 0 (nx * 24) 24) (uN Pd nx dr) r o (by first | assumption | omega) (by first | assumption | omega) (by first | assumption | omega) (by first | assumption | omega) (by first | assumption | omega) (by first | assumption | omega)) (cwV 2 hts gX4_times_X0_multiplyBy rfl rfl rfl (by decide +kernel) ⟨Nat.le_of_ble_eq_true rfl, Nat.le_of_ble_eq_true rfl⟩) (rw_preV hKK (hP.sub [1, 2, 3, 4, 5, 6, 7, 8] rfl) (hD.sub [1, 2, 3, 4, 5, 6, 7, 8] (by decide) rfl) rfl rfl) rfl rfl hl.1 rfl (lv_room (Nat.le_of_ble_eq_true rfl)) dX4_times_29 ⟨Nat.zero_le _, Nat.zero_le _⟩) (wr := [(x0, .inr (4, [.ref t0, .ref b0, .ref k0, .int (bi im), .ref sa]))]) hP hD hS hA [1, 2, 3, 4, 5, 6, 7, 8] [0] rfl rfl (by decide) (by decide) (fun H locs hP hD hS => ?_)
  have hP : va_P (dC, dI) vwCl [(x0, .inr (4, [.ref t0, .ref b0, .ref k0, .int (bi im), .ref sa])), (b0, .inr (0, [.ref h3, .ref hrs, .int (nI dr), .int (nI (min (kn + 1) 8)), .int (nI ((nx + 1) % 8)), .ref hpr, .ref hpd])), (h3, .inr (3, [.int (nI n), .int (nI h), .int (nI rg), .int (nI sp), .ref hk, .ref hw, .ref hs])), (hk, .inl (cI, 6, .inl kf)), (hw, .inl (cI, 6, .inl wf)), (hs, .inl (cI, 6, .inl sf)), (hrs, .inl (cI, 24, .inl (nA (rwN r (muF Kd Wd Rr r o) n Rr)))), (hpr, .inl (cI, 192, .inl (nA (cpN Rr Pr 0 (nx * 24) 24)))), (hpd, .inl (cI, 8, .inl (nA (uN Pd nx dr))))] H := hP.sub [0, 1, 2, 3, 4, 5, 6, 7, 8] rfl
  have hD : va_D A [(x0, .inr (4, [.ref t0, .ref b0, .ref k0, .int (bi im), .ref sa])), (b0, .inr (0, [.ref h3, .ref hrs, .int (nI dr), .int (nI (min (kn + 1) 8)), .int (nI ((nx + 1) % 8)), .ref hpr, .ref hpd])), (h3, .inr (3, [.int (nI n), .int (nI h), .int (nI rg), .int (nI sp), .ref hk, .ref hw, .ref hs])), (hk, .inl (cI, 6, .inl kf)), (hw, .inl (cI, 6, .inl wf)), (hs, .inl (cI, 6, .inl sf)), (hrs, .inl (cI, 24, .inl (nA (rwN r (muF Kd Wd Rr r o) n Rr)))), (hpr, .inl (cI, 192, .inl (nA (cpN Rr Pr 0 (nx * 24) 24)))), (hpd, .inl (cI, 8, .inl (nA (uN Pd nx dr))))] := hD.sub [0, 1, 2, 3, 4, 5, 6, 7, 8] (by decide) rfl
  refine lv_aload_n hx hb dX4_times_32 rfl (lv_at hl 0 rfl) ?_
  refine va_get (D := (dC, dI)) (ci := 4) (v := .ref b0) (C := RX4) (T := TX4) (N := 5) hx hb hts hiX4 hown hK hP 0 rfl rfl 1 (by decide) (hts (.fieldLink RX4 19 "RestRegisters" "now" "LRestRegisters$Bank;") (by decide +kernel)) (fun _ h9 => h9) rfl dX4_times_33 ?_
  refine lv_iload_n hx hb dX4_times_36 rfl (lv_at hl 1 rfl) ?_
  refine rr_callR (va_runV (As := [.int (nI r)]) (rest := []) ⟨hx, hb, hml, hown, hts⟩ (c_X0_value l dC dI cI cJ cS b0 h3 hk hw hs hrs hpr hpd n h rg sp dr (min (kn + 1) 8) ((nx + 1) % 8) kf wf sf Kd Wd Sh (rwN r (muF Kd Wd Rr r o) n Rr) (cpN Rr Pr 0 (nx * 24) 24) (uN Pd nx dr) r (by first | assumption | omega) (by first | assumption | omega) (by first | assumption | omega) (by first | assumption | omega) (by first | assumption | omega) (rOk_rw hR hn6 (muF_lt hR hr4)) (by first | assumption | omega)) (cwV 1 hts gX4_times_X0_value rfl rfl rfl (by decide +kernel) ⟨Nat.le_of_ble_eq_true rfl, Nat.le_of_ble_eq_true rfl⟩) (rr_preV hKK (hP.sub [1, 2, 3, 4, 5, 6, 7, 8] rfl) rfl rfl) rfl rfl hl.1 rfl (lv_room (Nat.le_of_ble_eq_true rfl)) dX4_times_37 ⟨Nat.zero_le _, Nat.zero_le _⟩) ?_
  exact rr_iretW hx hb hr hlocks dX4_times_40 hP hD hS (rfl)
set_option maxHeartbeats 4000000 in
set_option maxRecDepth 100000 in
theorem c_X4_take_g (l : Launch) (dC : Nat → ClassId) (dI : Nat → Nat → Nat) (cI cJ cS : ClassId) (sz : Nat) (x0 t0 k0 sa : Nat) (im : Bool) (b0 h3 hk hw hs hrs hpr hpd : Nat) (n h rg sp dr kn nx : Nat) (kf wf sf : Nat → Int32) (Kd Wd Sh Rr Pr Pd : Nat → Nat) (r o : Nat) (ok : wOk n Kd Wd) (fk : isA n kf Kd) (fw : isA n wf Wd) (fs : isA n sf Sh) (hS : ∀ j, j < n → Sh j < sp) (hsp : sp ≤ 47045881) (hsp0 : 0 < sp) (hR : rOk n Wd Rr) (hrg : rg < 2 ^ 31) (hnx : nx < 8) (hkn : kn ≤ 8) (hr4 : r < 4) (ho4 : o < 4) (hne : r ≠ o) : Met l yX4_take wsX4_take ({ frames := 2, cells := 0, slots := 0, locals := 80 }) (va_Pc [.ref x0, .int (nI r), .int (nI o)] (rW (dC, dI) vwCl [(x0, .inr (4, [.ref t0, .ref b0, .ref k0, .int (bi im), .ref sa])), (b0, .inr (0, [.ref h3, .ref hrs, .int (nI dr), .int (nI kn), .int (nI nx), .ref hpr, .ref hpd])), (h3, .inr (3, [.int (nI n), .int (nI h), .int (nI rg), .int (nI sp), .ref hk, .ref hw, .ref hs])), (hk, .inl (cI, 6, .inl kf)), (hw, .inl (cI, 6, .inl wf)), (hs, .inl (cI, 6, .inl sf)), (hrs, .inl (cI, 24, .inl (nA Rr))), (hpr, .inl (cI, 192, .inl (nA Pr))), (hpd, .inl (cI, 8, .inl (nA Pd)))] (tyz cI cJ cS) sz)) (qI (nI (vR Sh (rwN r (fun k => Rr (o * 6 + k)) n Rr) sp n r)) (dC, dI) vwCl [(x0, .inr (4, [.ref t0, .ref b0, .ref k0, .int (bi im), .ref sa])), (b0, .inr (0, [.ref h3, .ref hrs, .int (nI dr), .int (nI (min (kn + 1) 8)), .int (nI ((nx + 1) % 8)), .ref hpr, .ref hpd])), (h3, .inr (3, [.int (nI n), .int (nI h), .int (nI rg), .int (nI sp), .ref hk, .ref hw, .ref hs])), (hk, .inl (cI, 6, .inl kf)), (hw, .inl (cI, 6, .inl wf)), (hs, .inl (cI, 6, .inl sf)), (hrs, .inl (cI, 24, .inl (nA (rwN r (fun k => Rr (o * 6 + k)) n Rr)))), (hpr, .inl (cI, 192, .inl (nA (cpN Rr Pr 0 (nx * 24) 24)))), (hpd, .inl (cI, 8, .inl (nA (uN Pd nx dr))))] (va_A [(x0, .inr (4, [.ref t0, .ref b0, .ref k0, .int (bi im), .ref sa])), (b0, .inr (0, [.ref h3, .ref hrs, .int (nI dr), .int (nI kn), .int (nI nx), .ref hpr, .ref hpd])), (h3, .inr (3, [.int (nI n), .int (nI h), .int (nI rg), .int (nI sp), .ref hk, .ref hw, .ref hs])), (hk, .inl (cI, 6, .inl kf)), (hw, .inl (cI, 6, .inl wf)), (hs, .inl (cI, 6, .inl sf)), (hrs, .inl (cI, 24, .inl (nA Rr))), (hpr, .inl (cI, 192, .inl (nA Pr))), (hpd, .inl (cI, 8, .inl (nA Pd)))] sz)) 0 0 (va_A [(x0, .inr (4, [.ref t0, .ref b0, .ref k0, .int (bi im), .ref sa])), (b0, .inr (0, [.ref h3, .ref hrs, .int (nI dr), .int (nI kn), .int (nI nx), .ref hpr, .ref hpd])), (h3, .inr (3, [.int (nI n), .int (nI h), .int (nI rg), .int (nI sp), .ref hk, .ref hw, .ref hs])), (hk, .inl (cI, 6, .inl kf)), (hw, .inl (cI, 6, .inl wf)), (hs, .inl (cI, 6, .inl sf)), (hrs, .inl (cI, 24, .inl (nA Rr))), (hpr, .inl (cI, 192, .inl (nA Pr))), (hpd, .inl (cI, 8, .inl (nA Pd)))] sz) := by
  refine Met.ofW (cc := cX4_take) (maxL := 3) (ret := (some .int)) (by decide) rfl ?_
  intro p e s m args below meth c s₁ B hml hv
  obtain ⟨rfl, hsz, hP, hKK, hD0⟩ := hv
  have hK := hKK.1
  have hx := B.exec
  have hb := B.bytes
  have hr := B.returns
  have hts := atoms_spec (ws := wsX4_take) B.pre
  have hown : s.vm.findClass RX4 = some m.cls := findClass_of_methodNamed B.named
  have hlocks := B.notSynchronized
  subst hsz
  have hD := hD0.self (sz := s.heap.size)
  generalize hAe : va_A [(x0, .inr (4, [.ref t0, .ref b0, .ref k0, .int (bi im), .ref sa])), (b0, .inr (0, [.ref h3, .ref hrs, .int (nI dr), .int (nI kn), .int (nI nx), .ref hpr, .ref hpd])), (h3, .inr (3, [.int (nI n), .int (nI h), .int (nI rg), .int (nI sp), .ref hk, .ref hw, .ref hs])), (hk, .inl (cI, 6, .inl kf)), (hw, .inl (cI, 6, .inl wf)), (hs, .inl (cI, 6, .inl sf)), (hrs, .inl (cI, 24, .inl (nA Rr))), (hpr, .inl (cI, 192, .inl (nA Pr))), (hpd, .inl (cI, 8, .inl (nA Pd)))] s.heap.size = A at hD ⊢
  have hA : ∀ q : Nat, s.heap.size ≤ q → A q := fun q h => by rw [← hAe]; exact Or.inr h
  have hS : va_S A s.heap s.heap [] := va_S.rf
  have hP : va_P (dC, dI) vwCl [(x0, .inr (4, [.ref t0, .ref b0, .ref k0, .int (bi im), .ref sa])), (b0, .inr (0, [.ref h3, .ref hrs, .int (nI dr), .int (nI kn), .int (nI nx), .ref hpr, .ref hpd])), (h3, .inr (3, [.int (nI n), .int (nI h), .int (nI rg), .int (nI sp), .ref hk, .ref hw, .ref hs])), (hk, .inl (cI, 6, .inl kf)), (hw, .inl (cI, 6, .inl wf)), (hs, .inl (cI, 6, .inl sf)), (hrs, .inl (cI, 24, .inl (nA Rr))), (hpr, .inl (cI, 192, .inl (nA Pr))), (hpd, .inl (cI, 8, .inl (nA Pd)))] s.heap := hP
  have hiX4 : ∀ w ∈ wsX40, w ∈ wsX4_take := by decide +kernel
  have hl := lv_entry ([.ref x0, .int (nI r), .int (nI o)]) (n := 3) (Nat.le_of_ble_eq_true rfl)
  rw [lg_entry_eq]
  generalize (lg_sl ([.ref x0, .int (nI r), .int (nI o)]) ++ List.replicate (3 - (lg_sl ([.ref x0, .int (nI r), .int (nI o)])).length) Slot.unset).toArray = ls at hl ⊢
  have hl : lv_has ls 3 [(0, .ref x0), (1, .int (nI r)), (2, .int (nI o))] := hl
  have hn6 := ok.1
  refine lv_iload_n hx hb dX4_take_0 rfl (lv_at hl 1 rfl) ?_
  refine rr_callR (va_runS (As := [.int (nI r)]) (rest := []) ⟨hx, hb, hml, hown, hts⟩ (c_X4_isRegister l (nI r) ) (va_cwS 1 hts gX4_take_X4_isRegister rfl rfl rfl (by decide +kernel) ⟨Nat.le_of_ble_eq_true rfl, Nat.le_of_ble_eq_true rfl⟩) rr_preT rfl rfl hl.1 rfl (lv_room (Nat.le_of_ble_eq_true rfl)) dX4_take_1 ⟨Nat.zero_le _, Nat.zero_le _⟩) ?_
  refine rr_top (y := bi true) (congrArg bi (inb_lt (by omega) (by omega))) ?_
  refine rb_if_eq (tgt := 19) hx hb dX4_take_4 (by decide) (fun c4 => ?_) (fun c4 => ?_)
  · exact absurd c4 (by decide)
  refine lv_iload_n hx hb dX4_take_7 rfl (lv_at hl 2 rfl) ?_
  refine rr_callR (va_runS (As := [.int (nI o)]) (rest := []) ⟨hx, hb, hml, hown, hts⟩ (c_X4_isRegister l (nI o) ) (va_cwS 1 hts gX4_take_X4_isRegister rfl rfl rfl (by decide +kernel) ⟨Nat.le_of_ble_eq_true rfl, Nat.le_of_ble_eq_true rfl⟩) rr_preT rfl rfl hl.1 rfl (lv_room (Nat.le_of_ble_eq_true rfl)) dX4_take_8 ⟨Nat.zero_le _, Nat.zero_le _⟩) ?_
  refine rr_top (y := bi true) (congrArg bi (inb_lt (by omega) (by omega))) ?_
  refine rb_if_eq (tgt := 19) hx hb dX4_take_11 (by decide) (fun c11 => ?_) (fun c11 => ?_)
  · exact absurd c11 (by decide)
  refine lv_iload_n hx hb dX4_take_14 rfl (lv_at hl 1 rfl) ?_
  refine lv_iload_n hx hb dX4_take_15 rfl (lv_at hl 2 rfl) ?_
  refine rn_icmp_ne (tgt := 21) hx hb dX4_take_16 (by decide) (by omega) (by omega) (fun c16 => ?_) (fun c16 => ?_)
  · skip
    refine lv_aload_n hx hb dX4_take_21 rfl (lv_at hl 0 rfl) ?_
    refine va_get (D := (dC, dI)) (ci := 4) (v := .ref b0) (C := RX4) (T := TX4) (N := 5) hx hb hts hiX4 hown hK hP 0 rfl rfl 1 (by decide) (hts (.fieldLink RX4 19 "RestRegisters" "now" "LRestRegisters$Bank;") (by decide +kernel)) (fun _ h9 => h9) rfl dX4_take_22 ?_
    refine rw_callv (va_runV (As := []) (rest := []) ⟨hx, hb, hml, hown, hts⟩ (c_X0_remember l dC dI cI cJ cS _ b0 h3 hk hw hs hrs hpr hpd n h rg sp dr kn nx kf wf sf Kd Wd Sh Rr Pr Pd (by first | assumption | omega) (by first | assumption | omega)) (cwV 0 hts gX4_take_X0_remember rfl rfl rfl (by decide +kernel) ⟨Nat.le_of_ble_eq_true rfl, Nat.le_of_ble_eq_true rfl⟩) (rw_preV hKK (hP.sub [1, 2, 3, 4, 5, 6, 7, 8] rfl) (hD.sub [1, 2, 3, 4, 5, 6, 7, 8] (by decide) rfl) rfl rfl) rfl rfl hl.1 rfl (lv_room (Nat.le_of_ble_eq_true rfl)) dX4_take_25 ⟨Nat.zero_le _, Nat.zero_le _⟩) (wr := [(x0, .inr (4, [.ref t0, .ref b0, .ref k0, .int (bi im), .ref sa]))]) hP hD hS hA [1, 2, 3, 4, 5, 6, 7, 8] [0] rfl rfl (by decide) (by decide) (fun H locs hP hD hS => ?_)
    have hP : va_P (dC, dI) vwCl [(x0, .inr (4, [.ref t0, .ref b0, .ref k0, .int (bi im), .ref sa])), (b0, .inr (0, [.ref h3, .ref hrs, .int (nI dr), .int (nI (min (kn + 1) 8)), .int (nI ((nx + 1) % 8)), .ref hpr, .ref hpd])), (h3, .inr (3, [.int (nI n), .int (nI h), .int (nI rg), .int (nI sp), .ref hk, .ref hw, .ref hs])), (hk, .inl (cI, 6, .inl kf)), (hw, .inl (cI, 6, .inl wf)), (hs, .inl (cI, 6, .inl sf)), (hrs, .inl (cI, 24, .inl (nA Rr))), (hpr, .inl (cI, 192, .inl (nA (cpN Rr Pr 0 (nx * 24) 24)))), (hpd, .inl (cI, 8, .inl (nA (uN Pd nx dr))))] H := hP.sub [0, 1, 2, 3, 4, 5, 6, 7, 8] rfl
    have hD : va_D A [(x0, .inr (4, [.ref t0, .ref b0, .ref k0, .int (bi im), .ref sa])), (b0, .inr (0, [.ref h3, .ref hrs, .int (nI dr), .int (nI (min (kn + 1) 8)), .int (nI ((nx + 1) % 8)), .ref hpr, .ref hpd])), (h3, .inr (3, [.int (nI n), .int (nI h), .int (nI rg), .int (nI sp), .ref hk, .ref hw, .ref hs])), (hk, .inl (cI, 6, .inl kf)), (hw, .inl (cI, 6, .inl wf)), (hs, .inl (cI, 6, .inl sf)), (hrs, .inl (cI, 24, .inl (nA Rr))), (hpr, .inl (cI, 192, .inl (nA (cpN Rr Pr 0 (nx * 24) 24)))), (hpd, .inl (cI, 8, .inl (nA (uN Pd nx dr))))] := hD.sub [0, 1, 2, 3, 4, 5, 6, 7, 8] (by decide) rfl
    refine lv_aload_n hx hb dX4_take_28 rfl (lv_at hl 0 rfl) ?_
    refine va_get (D := (dC, dI)) (ci := 4) (v := .ref b0) (C := RX4) (T := TX4) (N := 5) hx hb hts hiX4 hown hK hP 0 rfl rfl 1 (by decide) (hts (.fieldLink RX4 19 "RestRegisters" "now" "LRestRegisters$Bank;") (by decide +kernel)) (fun _ h9 => h9) rfl dX4_take_29 ?_
    refine lv_iload_n hx hb dX4_take_32 rfl (lv_at hl 1 rfl) ?_
    refine lv_iload_n hx hb dX4_take_33 rfl (lv_at hl 2 rfl) ?_
    refine rw_callv (va_runV (As := [.int (nI r), .int (nI o)]) (rest := []) ⟨hx, hb, hml, hown, hts⟩ (c_X0_takeOver l dC dI cI cJ cS _ b0 h3 hk hw hs hrs hpr hpd n h rg sp dr (min (kn + 1) 8) ((nx + 1) % 8) kf wf sf Kd Wd Sh Rr (cpN Rr Pr 0 (nx * 24) 24) (uN Pd nx dr) r o (by first | assumption | omega) (by first | assumption | omega) (by first | assumption | omega)) (cwV 2 hts gX4_take_X0_takeOver rfl rfl rfl (by decide +kernel) ⟨Nat.le_of_ble_eq_true rfl, Nat.le_of_ble_eq_true rfl⟩) (rw_preV hKK (hP.sub [1, 2, 3, 4, 5, 6, 7, 8] rfl) (hD.sub [1, 2, 3, 4, 5, 6, 7, 8] (by decide) rfl) rfl rfl) rfl rfl hl.1 rfl (lv_room (Nat.le_of_ble_eq_true rfl)) dX4_take_34 ⟨Nat.zero_le _, Nat.zero_le _⟩) (wr := [(x0, .inr (4, [.ref t0, .ref b0, .ref k0, .int (bi im), .ref sa]))]) hP hD hS hA [1, 2, 3, 4, 5, 6, 7, 8] [0] rfl rfl (by decide) (by decide) (fun H locs hP hD hS => ?_)
    have hP : va_P (dC, dI) vwCl [(x0, .inr (4, [.ref t0, .ref b0, .ref k0, .int (bi im), .ref sa])), (b0, .inr (0, [.ref h3, .ref hrs, .int (nI dr), .int (nI (min (kn + 1) 8)), .int (nI ((nx + 1) % 8)), .ref hpr, .ref hpd])), (h3, .inr (3, [.int (nI n), .int (nI h), .int (nI rg), .int (nI sp), .ref hk, .ref hw, .ref hs])), (hk, .inl (cI, 6, .inl kf)), (hw, .inl (cI, 6, .inl wf)), (hs, .inl (cI, 6, .inl sf)), (hrs, .inl (cI, 24, .inl (nA (rwN r (fun k => Rr (o * 6 + k)) n Rr)))), (hpr, .inl (cI, 192, .inl (nA (cpN Rr Pr 0 (nx * 24) 24)))), (hpd, .inl (cI, 8, .inl (nA (uN Pd nx dr))))] H := hP.sub [0, 1, 2, 3, 4, 5, 6, 7, 8] rfl
    have hD : va_D A [(x0, .inr (4, [.ref t0, .ref b0, .ref k0, .int (bi im), .ref sa])), (b0, .inr (0, [.ref h3, .ref hrs, .int (nI dr), .int (nI (min (kn + 1) 8)), .int (nI ((nx + 1) % 8)), .ref hpr, .ref hpd])), (h3, .inr (3, [.int (nI n), .int (nI h), .int (nI rg), .int (nI sp), .ref hk, .ref hw, .ref hs])), (hk, .inl (cI, 6, .inl kf)), (hw, .inl (cI, 6, .inl wf)), (hs, .inl (cI, 6, .inl sf)), (hrs, .inl (cI, 24, .inl (nA (rwN r (fun k => Rr (o * 6 + k)) n Rr)))), (hpr, .inl (cI, 192, .inl (nA (cpN Rr Pr 0 (nx * 24) 24)))), (hpd, .inl (cI, 8, .inl (nA (uN Pd nx dr))))] := hD.sub [0, 1, 2, 3, 4, 5, 6, 7, 8] (by decide) rfl
    refine lv_aload_n hx hb dX4_take_37 rfl (lv_at hl 0 rfl) ?_
    refine va_get (D := (dC, dI)) (ci := 4) (v := .ref b0) (C := RX4) (T := TX4) (N := 5) hx hb hts hiX4 hown hK hP 0 rfl rfl 1 (by decide) (hts (.fieldLink RX4 19 "RestRegisters" "now" "LRestRegisters$Bank;") (by decide +kernel)) (fun _ h9 => h9) rfl dX4_take_38 ?_
    refine lv_iload_n hx hb dX4_take_41 rfl (lv_at hl 1 rfl) ?_
    refine rr_callR (va_runV (As := [.int (nI r)]) (rest := []) ⟨hx, hb, hml, hown, hts⟩ (c_X0_value l dC dI cI cJ cS b0 h3 hk hw hs hrs hpr hpd n h rg sp dr (min (kn + 1) 8) ((nx + 1) % 8) kf wf sf Kd Wd Sh (rwN r (fun k => Rr (o * 6 + k)) n Rr) (cpN Rr Pr 0 (nx * 24) 24) (uN Pd nx dr) r (by first | assumption | omega) (by first | assumption | omega) (by first | assumption | omega) (by first | assumption | omega) (by first | assumption | omega) (rOk_rw hR hn6 (fun k hk => hR o k ho4 hk)) (by first | assumption | omega)) (cwV 1 hts gX4_take_X0_value rfl rfl rfl (by decide +kernel) ⟨Nat.le_of_ble_eq_true rfl, Nat.le_of_ble_eq_true rfl⟩) (rr_preV hKK (hP.sub [1, 2, 3, 4, 5, 6, 7, 8] rfl) rfl rfl) rfl rfl hl.1 rfl (lv_room (Nat.le_of_ble_eq_true rfl)) dX4_take_42 ⟨Nat.zero_le _, Nat.zero_le _⟩) ?_
    exact rr_iretW hx hb hr hlocks dX4_take_45 hP hD hS (rfl)
  exact absurd c16 hne
set_option maxHeartbeats 4000000 in
set_option maxRecDepth 100000 in
theorem c_X4_negate_g (l : Launch) (dC : Nat → ClassId) (dI : Nat → Nat → Nat) (cI cJ cS : ClassId) (sz : Nat) (x0 t0 k0 sa : Nat) (im : Bool) (b0 h3 hk hw hs hrs hpr hpd : Nat) (n h rg sp dr kn nx : Nat) (kf wf sf : Nat → Int32) (Kd Wd Sh Rr Pr Pd : Nat → Nat) (r : Nat) (ok : wOk n Kd Wd) (fk : isA n kf Kd) (fw : isA n wf Wd) (fs : isA n sf Sh) (hS : ∀ j, j < n → Sh j < sp) (hsp : sp ≤ 47045881) (hsp0 : 0 < sp) (hR : rOk n Wd Rr) (hrg : rg < 2 ^ 31) (hnx : nx < 8) (hkn : kn ≤ 8) (hr4 : r < 4) : Met l yX4_negate wsX4_negate ({ frames := 2, cells := 0, slots := 0, locals := 80 }) (va_Pc [.ref x0, .int (nI r)] (rW (dC, dI) vwCl [(x0, .inr (4, [.ref t0, .ref b0, .ref k0, .int (bi im), .ref sa])), (b0, .inr (0, [.ref h3, .ref hrs, .int (nI dr), .int (nI kn), .int (nI nx), .ref hpr, .ref hpd])), (h3, .inr (3, [.int (nI n), .int (nI h), .int (nI rg), .int (nI sp), .ref hk, .ref hw, .ref hs])), (hk, .inl (cI, 6, .inl kf)), (hw, .inl (cI, 6, .inl wf)), (hs, .inl (cI, 6, .inl sf)), (hrs, .inl (cI, 24, .inl (nA Rr))), (hpr, .inl (cI, 192, .inl (nA Pr))), (hpd, .inl (cI, 8, .inl (nA Pd)))] (tyz cI cJ cS) sz)) (qI (nI (vR Sh (rwN r (ngF Wd Rr r) n Rr) sp n r)) (dC, dI) vwCl [(x0, .inr (4, [.ref t0, .ref b0, .ref k0, .int (bi im), .ref sa])), (b0, .inr (0, [.ref h3, .ref hrs, .int (nI dr), .int (nI (min (kn + 1) 8)), .int (nI ((nx + 1) % 8)), .ref hpr, .ref hpd])), (h3, .inr (3, [.int (nI n), .int (nI h), .int (nI rg), .int (nI sp), .ref hk, .ref hw, .ref hs])), (hk, .inl (cI, 6, .inl kf)), (hw, .inl (cI, 6, .inl wf)), (hs, .inl (cI, 6, .inl sf)), (hrs, .inl (cI, 24, .inl (nA (rwN r (ngF Wd Rr r) n Rr)))), (hpr, .inl (cI, 192, .inl (nA (cpN Rr Pr 0 (nx * 24) 24)))), (hpd, .inl (cI, 8, .inl (nA (uN Pd nx dr))))] (va_A [(x0, .inr (4, [.ref t0, .ref b0, .ref k0, .int (bi im), .ref sa])), (b0, .inr (0, [.ref h3, .ref hrs, .int (nI dr), .int (nI kn), .int (nI nx), .ref hpr, .ref hpd])), (h3, .inr (3, [.int (nI n), .int (nI h), .int (nI rg), .int (nI sp), .ref hk, .ref hw, .ref hs])), (hk, .inl (cI, 6, .inl kf)), (hw, .inl (cI, 6, .inl wf)), (hs, .inl (cI, 6, .inl sf)), (hrs, .inl (cI, 24, .inl (nA Rr))), (hpr, .inl (cI, 192, .inl (nA Pr))), (hpd, .inl (cI, 8, .inl (nA Pd)))] sz)) 0 0 (va_A [(x0, .inr (4, [.ref t0, .ref b0, .ref k0, .int (bi im), .ref sa])), (b0, .inr (0, [.ref h3, .ref hrs, .int (nI dr), .int (nI kn), .int (nI nx), .ref hpr, .ref hpd])), (h3, .inr (3, [.int (nI n), .int (nI h), .int (nI rg), .int (nI sp), .ref hk, .ref hw, .ref hs])), (hk, .inl (cI, 6, .inl kf)), (hw, .inl (cI, 6, .inl wf)), (hs, .inl (cI, 6, .inl sf)), (hrs, .inl (cI, 24, .inl (nA Rr))), (hpr, .inl (cI, 192, .inl (nA Pr))), (hpd, .inl (cI, 8, .inl (nA Pd)))] sz) := by
  refine Met.ofW (cc := cX4_negate) (maxL := 2) (ret := (some .int)) (by decide) rfl ?_
  intro p e s m args below meth c s₁ B hml hv
  obtain ⟨rfl, hsz, hP, hKK, hD0⟩ := hv
  have hK := hKK.1
  have hx := B.exec
  have hb := B.bytes
  have hr := B.returns
  have hts := atoms_spec (ws := wsX4_negate) B.pre
  have hown : s.vm.findClass RX4 = some m.cls := findClass_of_methodNamed B.named
  have hlocks := B.notSynchronized
  subst hsz
  have hD := hD0.self (sz := s.heap.size)
  generalize hAe : va_A [(x0, .inr (4, [.ref t0, .ref b0, .ref k0, .int (bi im), .ref sa])), (b0, .inr (0, [.ref h3, .ref hrs, .int (nI dr), .int (nI kn), .int (nI nx), .ref hpr, .ref hpd])), (h3, .inr (3, [.int (nI n), .int (nI h), .int (nI rg), .int (nI sp), .ref hk, .ref hw, .ref hs])), (hk, .inl (cI, 6, .inl kf)), (hw, .inl (cI, 6, .inl wf)), (hs, .inl (cI, 6, .inl sf)), (hrs, .inl (cI, 24, .inl (nA Rr))), (hpr, .inl (cI, 192, .inl (nA Pr))), (hpd, .inl (cI, 8, .inl (nA Pd)))] s.heap.size = A at hD ⊢
  have hA : ∀ q : Nat, s.heap.size ≤ q → A q := fun q h => by rw [← hAe]; exact Or.inr h
  have hS : va_S A s.heap s.heap [] := va_S.rf
  have hP : va_P (dC, dI) vwCl [(x0, .inr (4, [.ref t0, .ref b0, .ref k0, .int (bi im), .ref sa])), (b0, .inr (0, [.ref h3, .ref hrs, .int (nI dr), .int (nI kn), .int (nI nx), .ref hpr, .ref hpd])), (h3, .inr (3, [.int (nI n), .int (nI h), .int (nI rg), .int (nI sp), .ref hk, .ref hw, .ref hs])), (hk, .inl (cI, 6, .inl kf)), (hw, .inl (cI, 6, .inl wf)), (hs, .inl (cI, 6, .inl sf)), (hrs, .inl (cI, 24, .inl (nA Rr))), (hpr, .inl (cI, 192, .inl (nA Pr))), (hpd, .inl (cI, 8, .inl (nA Pd)))] s.heap := hP
  have hiX4 : ∀ w ∈ wsX40, w ∈ wsX4_negate := by decide +kernel
  have hl := lv_entry ([.ref x0, .int (nI r)]) (n := 2) (Nat.le_of_ble_eq_true rfl)
  rw [lg_entry_eq]
  generalize (lg_sl ([.ref x0, .int (nI r)]) ++ List.replicate (2 - (lg_sl ([.ref x0, .int (nI r)])).length) Slot.unset).toArray = ls at hl ⊢
  have hl : lv_has ls 2 [(0, .ref x0), (1, .int (nI r))] := hl
  have hn6 := ok.1
  refine lv_iload_n hx hb dX4_negate_0 rfl (lv_at hl 1 rfl) ?_
  refine rr_callR (va_runS (As := [.int (nI r)]) (rest := []) ⟨hx, hb, hml, hown, hts⟩ (c_X4_isRegister l (nI r) ) (va_cwS 1 hts gX4_negate_X4_isRegister rfl rfl rfl (by decide +kernel) ⟨Nat.le_of_ble_eq_true rfl, Nat.le_of_ble_eq_true rfl⟩) rr_preT rfl rfl hl.1 rfl (lv_room (Nat.le_of_ble_eq_true rfl)) dX4_negate_1 ⟨Nat.zero_le _, Nat.zero_le _⟩) ?_
  refine rr_top (y := bi true) (congrArg bi (inb_lt (by omega) (by omega))) ?_
  refine rb_if_ne (tgt := 9) hx hb dX4_negate_4 (by decide) (fun c4 => ?_) (fun c4 => ?_)
  rotate_left
  · exact absurd c4 (by decide)
  refine lv_aload_n hx hb dX4_negate_9 rfl (lv_at hl 0 rfl) ?_
  refine va_get (D := (dC, dI)) (ci := 4) (v := .ref b0) (C := RX4) (T := TX4) (N := 5) hx hb hts hiX4 hown hK hP 0 rfl rfl 1 (by decide) (hts (.fieldLink RX4 19 "RestRegisters" "now" "LRestRegisters$Bank;") (by decide +kernel)) (fun _ h9 => h9) rfl dX4_negate_10 ?_
  refine rw_callv (va_runV (As := []) (rest := []) ⟨hx, hb, hml, hown, hts⟩ (c_X0_remember l dC dI cI cJ cS _ b0 h3 hk hw hs hrs hpr hpd n h rg sp dr kn nx kf wf sf Kd Wd Sh Rr Pr Pd (by first | assumption | omega) (by first | assumption | omega)) (cwV 0 hts gX4_negate_X0_remember rfl rfl rfl (by decide +kernel) ⟨Nat.le_of_ble_eq_true rfl, Nat.le_of_ble_eq_true rfl⟩) (rw_preV hKK (hP.sub [1, 2, 3, 4, 5, 6, 7, 8] rfl) (hD.sub [1, 2, 3, 4, 5, 6, 7, 8] (by decide) rfl) rfl rfl) rfl rfl hl.1 rfl (lv_room (Nat.le_of_ble_eq_true rfl)) dX4_negate_13 ⟨Nat.zero_le _, Nat.zero_le _⟩) (wr := [(x0, .inr (4, [.ref t0, .ref b0, .ref k0, .int (bi im), .ref sa]))]) hP hD hS hA [1, 2, 3, 4, 5, 6, 7, 8] [0] rfl rfl (by decide) (by decide) (fun H locs hP hD hS => ?_)
  have hP : va_P (dC, dI) vwCl [(x0, .inr (4, [.ref t0, .ref b0, .ref k0, .int (bi im), .ref sa])), (b0, .inr (0, [.ref h3, .ref hrs, .int (nI dr), .int (nI (min (kn + 1) 8)), .int (nI ((nx + 1) % 8)), .ref hpr, .ref hpd])), (h3, .inr (3, [.int (nI n), .int (nI h), .int (nI rg), .int (nI sp), .ref hk, .ref hw, .ref hs])), (hk, .inl (cI, 6, .inl kf)), (hw, .inl (cI, 6, .inl wf)), (hs, .inl (cI, 6, .inl sf)), (hrs, .inl (cI, 24, .inl (nA Rr))), (hpr, .inl (cI, 192, .inl (nA (cpN Rr Pr 0 (nx * 24) 24)))), (hpd, .inl (cI, 8, .inl (nA (uN Pd nx dr))))] H := hP.sub [0, 1, 2, 3, 4, 5, 6, 7, 8] rfl
  have hD : va_D A [(x0, .inr (4, [.ref t0, .ref b0, .ref k0, .int (bi im), .ref sa])), (b0, .inr (0, [.ref h3, .ref hrs, .int (nI dr), .int (nI (min (kn + 1) 8)), .int (nI ((nx + 1) % 8)), .ref hpr, .ref hpd])), (h3, .inr (3, [.int (nI n), .int (nI h), .int (nI rg), .int (nI sp), .ref hk, .ref hw, .ref hs])), (hk, .inl (cI, 6, .inl kf)), (hw, .inl (cI, 6, .inl wf)), (hs, .inl (cI, 6, .inl sf)), (hrs, .inl (cI, 24, .inl (nA Rr))), (hpr, .inl (cI, 192, .inl (nA (cpN Rr Pr 0 (nx * 24) 24)))), (hpd, .inl (cI, 8, .inl (nA (uN Pd nx dr))))] := hD.sub [0, 1, 2, 3, 4, 5, 6, 7, 8] (by decide) rfl
  refine lv_aload_n hx hb dX4_negate_16 rfl (lv_at hl 0 rfl) ?_
  refine va_get (D := (dC, dI)) (ci := 4) (v := .ref b0) (C := RX4) (T := TX4) (N := 5) hx hb hts hiX4 hown hK hP 0 rfl rfl 1 (by decide) (hts (.fieldLink RX4 19 "RestRegisters" "now" "LRestRegisters$Bank;") (by decide +kernel)) (fun _ h9 => h9) rfl dX4_negate_17 ?_
  refine lv_iload_n hx hb dX4_negate_20 rfl (lv_at hl 1 rfl) ?_
  refine rw_callv (va_runV (As := [.int (nI r)]) (rest := []) ⟨hx, hb, hml, hown, hts⟩ (c_X0_turnAbout l dC dI cI cJ cS _ b0 h3 hk hw hs hrs hpr hpd n h rg sp dr (min (kn + 1) 8) ((nx + 1) % 8) kf wf sf Kd Wd Sh Rr (cpN Rr Pr 0 (nx * 24) 24) (uN Pd nx dr) r (by first | assumption | omega) (by first | assumption | omega) (by first | assumption | omega) (by first | assumption | omega) (by first | assumption | omega)) (cwV 1 hts gX4_negate_X0_turnAbout rfl rfl rfl (by decide +kernel) ⟨Nat.le_of_ble_eq_true rfl, Nat.le_of_ble_eq_true rfl⟩) (rw_preV hKK (hP.sub [1, 2, 3, 4, 5, 6, 7, 8] rfl) (hD.sub [1, 2, 3, 4, 5, 6, 7, 8] (by decide) rfl) rfl rfl) rfl rfl hl.1 rfl (lv_room (Nat.le_of_ble_eq_true rfl)) dX4_negate_21 ⟨Nat.zero_le _, Nat.zero_le _⟩) (wr := [(x0, .inr (4, [.ref t0, .ref b0, .ref k0, .int (bi im), .ref sa]))]) hP hD hS hA [1, 2, 3, 4, 5, 6, 7, 8] [0] rfl rfl (by decide) (by decide) (fun H locs hP hD hS => ?_)
  have hP : va_P (dC, dI) vwCl [(x0, .inr (4, [.ref t0, .ref b0, .ref k0, .int (bi im), .ref sa])), (b0, .inr (0, [.ref h3, .ref hrs, .int (nI dr), .int (nI (min (kn + 1) 8)), .int (nI ((nx + 1) % 8)), .ref hpr, .ref hpd])), (h3, .inr (3, [.int (nI n), .int (nI h), .int (nI rg), .int (nI sp), .ref hk, .ref hw, .ref hs])), (hk, .inl (cI, 6, .inl kf)), (hw, .inl (cI, 6, .inl wf)), (hs, .inl (cI, 6, .inl sf)), (hrs, .inl (cI, 24, .inl (nA (rwN r (ngF Wd Rr r) n Rr)))), (hpr, .inl (cI, 192, .inl (nA (cpN Rr Pr 0 (nx * 24) 24)))), (hpd, .inl (cI, 8, .inl (nA (uN Pd nx dr))))] H := hP.sub [0, 1, 2, 3, 4, 5, 6, 7, 8] rfl
  have hD : va_D A [(x0, .inr (4, [.ref t0, .ref b0, .ref k0, .int (bi im), .ref sa])), (b0, .inr (0, [.ref h3, .ref hrs, .int (nI dr), .int (nI (min (kn + 1) 8)), .int (nI ((nx + 1) % 8)), .ref hpr, .ref hpd])), (h3, .inr (3, [.int (nI n), .int (nI h), .int (nI rg), .int (nI sp), .ref hk, .ref hw, .ref hs])), (hk, .inl (cI, 6, .inl kf)), (hw, .inl (cI, 6, .inl wf)), (hs, .inl (cI, 6, .inl sf)), (hrs, .inl (cI, 24, .inl (nA (rwN r (ngF Wd Rr r) n Rr)))), (hpr, .inl (cI, 192, .inl (nA (cpN Rr Pr 0 (nx * 24) 24)))), (hpd, .inl (cI, 8, .inl (nA (uN Pd nx dr))))] := hD.sub [0, 1, 2, 3, 4, 5, 6, 7, 8] (by decide) rfl
  refine lv_aload_n hx hb dX4_negate_24 rfl (lv_at hl 0 rfl) ?_
  refine va_get (D := (dC, dI)) (ci := 4) (v := .ref b0) (C := RX4) (T := TX4) (N := 5) hx hb hts hiX4 hown hK hP 0 rfl rfl 1 (by decide) (hts (.fieldLink RX4 19 "RestRegisters" "now" "LRestRegisters$Bank;") (by decide +kernel)) (fun _ h9 => h9) rfl dX4_negate_25 ?_
  refine lv_iload_n hx hb dX4_negate_28 rfl (lv_at hl 1 rfl) ?_
  refine rr_callR (va_runV (As := [.int (nI r)]) (rest := []) ⟨hx, hb, hml, hown, hts⟩ (c_X0_value l dC dI cI cJ cS b0 h3 hk hw hs hrs hpr hpd n h rg sp dr (min (kn + 1) 8) ((nx + 1) % 8) kf wf sf Kd Wd Sh (rwN r (ngF Wd Rr r) n Rr) (cpN Rr Pr 0 (nx * 24) 24) (uN Pd nx dr) r (by first | assumption | omega) (by first | assumption | omega) (by first | assumption | omega) (by first | assumption | omega) (by first | assumption | omega) (rOk_rw hR hn6 (ngF_lt hR hr4)) (by first | assumption | omega)) (cwV 1 hts gX4_negate_X0_value rfl rfl rfl (by decide +kernel) ⟨Nat.le_of_ble_eq_true rfl, Nat.le_of_ble_eq_true rfl⟩) (rr_preV hKK (hP.sub [1, 2, 3, 4, 5, 6, 7, 8] rfl) rfl rfl) rfl rfl hl.1 rfl (lv_room (Nat.le_of_ble_eq_true rfl)) dX4_negate_29 ⟨Nat.zero_le _, Nat.zero_le _⟩) ?_
  exact rr_iretW hx hb hr hlocks dX4_negate_32 hP hD hS (rfl)
set_option maxHeartbeats 4000000 in
set_option maxRecDepth 100000 in
theorem c_X4_add_b (l : Launch) (dC : Nat → ClassId) (dI : Nat → Nat → Nat) (cI cJ cS : ClassId) (x0 t0 k0 sa : Nat) (im : Bool) (b0 h3 hk hw hs hrs hpr hpd : Nat) (n h rg sp dr kn nx : Nat) (kf wf sf : Nat → Int32) (Kd Wd Sh Rr Pr Pd : Nat → Nat) (x y : Int32) (ok : wOk n Kd Wd) (fw : isA n wf Wd) (hbad : (inb x 4 && inb y 4) = false) : Met l yX4_add wsX4_add ({ frames := 5, cells := 0, slots := 0, locals := 115 }) (va_Pc [.ref x0, .int x, .int y] (rB (dC, dI) vwCl [(x0, .inr (4, [.ref t0, .ref b0, .ref k0, .int (bi im), .ref sa])), (b0, .inr (0, [.ref h3, .ref hrs, .int (nI dr), .int (nI kn), .int (nI nx), .ref hpr, .ref hpd])), (h3, .inr (3, [.int (nI n), .int (nI h), .int (nI rg), .int (nI sp), .ref hk, .ref hw, .ref hs])), (hk, .inl (cI, 6, .inl kf)), (hw, .inl (cI, 6, .inl wf)), (hs, .inl (cI, 6, .inl sf)), (hrs, .inl (cI, 24, .inl (nA Rr))), (hpr, .inl (cI, 192, .inl (nA Pr))), (hpd, .inl (cI, 8, .inl (nA Pd)))] (tyz cI cJ cS))) (QcRead (-1)) 0 0 (fun _ => False) := by
  refine Met.ofW (cc := cX4_add) (maxL := 3) (ret := (some .int)) (by decide) rfl ?_
  intro p e s m args below meth c s₁ B hml hv
  obtain ⟨rfl, hP, hKK⟩ := hv
  have hK := hKK.1
  have hx := B.exec
  have hb := B.bytes
  have hr := B.returns
  have hts := atoms_spec (ws := wsX4_add) B.pre
  have hown : s.vm.findClass RX4 = some m.cls := findClass_of_methodNamed B.named
  have hlocks := B.notSynchronized
  have hiX4 : ∀ w ∈ wsX40, w ∈ wsX4_add := by decide +kernel
  have hl := lv_entry ([.ref x0, .int x, .int y]) (n := 3) (Nat.le_of_ble_eq_true rfl)
  rw [lg_entry_eq]
  generalize (lg_sl ([.ref x0, .int x, .int y]) ++ List.replicate (3 - (lg_sl ([.ref x0, .int x, .int y])).length) Slot.unset).toArray = ls at hl ⊢
  have hl : lv_has ls 3 [(0, .ref x0), (1, .int x), (2, .int y)] := hl
  have hn6 := ok.1
  refine lv_iload_n hx hb dX4_add_0 rfl (lv_at hl 1 rfl) ?_
  refine rr_callR (va_runS (As := [.int x]) (rest := []) ⟨hx, hb, hml, hown, hts⟩ (c_X4_isRegister l x ) (va_cwS 1 hts gX4_add_X4_isRegister rfl rfl rfl (by decide +kernel) ⟨Nat.le_of_ble_eq_true rfl, Nat.le_of_ble_eq_true rfl⟩) rr_preT rfl rfl hl.1 rfl (lv_room (Nat.le_of_ble_eq_true rfl)) dX4_add_1 ⟨Nat.zero_le _, Nat.zero_le _⟩) ?_
  refine rb_if_eq (tgt := 14) hx hb dX4_add_4 (by decide) (fun c4 => ?_) (fun c4 => ?_)
  · skip
    refine lv_iconst (v := (-1)) hx hb dX4_add_14 (by decide) ?_
    exact rr_iret hx hb hr hlocks dX4_add_15 (rfl)
  refine lv_iload_n hx hb dX4_add_7 rfl (lv_at hl 2 rfl) ?_
  refine rr_callR (va_runS (As := [.int y]) (rest := []) ⟨hx, hb, hml, hown, hts⟩ (c_X4_isRegister l y ) (va_cwS 1 hts gX4_add_X4_isRegister rfl rfl rfl (by decide +kernel) ⟨Nat.le_of_ble_eq_true rfl, Nat.le_of_ble_eq_true rfl⟩) rr_preT rfl rfl hl.1 rfl (lv_room (Nat.le_of_ble_eq_true rfl)) dX4_add_8 ⟨Nat.zero_le _, Nat.zero_le _⟩) ?_
  refine rb_if_ne (tgt := 16) hx hb dX4_add_11 (by decide) (fun c11 => ?_) (fun c11 => ?_)
  · skip
    exact absurd hbad (by rw [c4, c11]; decide)
  refine lv_iconst (v := (-1)) hx hb dX4_add_14 (by decide) ?_
  exact rr_iret hx hb hr hlocks dX4_add_15 (rfl)
set_option maxHeartbeats 4000000 in
set_option maxRecDepth 100000 in
theorem c_X4_times_b (l : Launch) (dC : Nat → ClassId) (dI : Nat → Nat → Nat) (cI cJ cS : ClassId) (x0 t0 k0 sa : Nat) (im : Bool) (b0 h3 hk hw hs hrs hpr hpd : Nat) (n h rg sp dr kn nx : Nat) (kf wf sf : Nat → Int32) (Kd Wd Sh Rr Pr Pd : Nat → Nat) (x y : Int32) (ok : wOk n Kd Wd) (fw : isA n wf Wd) (hbad : (inb x 4 && inb y 4) = false) : Met l yX4_times wsX4_times ({ frames := 7, cells := 0, slots := 0, locals := 164 }) (va_Pc [.ref x0, .int x, .int y] (rB (dC, dI) vwCl [(x0, .inr (4, [.ref t0, .ref b0, .ref k0, .int (bi im), .ref sa])), (b0, .inr (0, [.ref h3, .ref hrs, .int (nI dr), .int (nI kn), .int (nI nx), .ref hpr, .ref hpd])), (h3, .inr (3, [.int (nI n), .int (nI h), .int (nI rg), .int (nI sp), .ref hk, .ref hw, .ref hs])), (hk, .inl (cI, 6, .inl kf)), (hw, .inl (cI, 6, .inl wf)), (hs, .inl (cI, 6, .inl sf)), (hrs, .inl (cI, 24, .inl (nA Rr))), (hpr, .inl (cI, 192, .inl (nA Pr))), (hpd, .inl (cI, 8, .inl (nA Pd)))] (tyz cI cJ cS))) (QcRead (-1)) 0 0 (fun _ => False) := by
  refine Met.ofW (cc := cX4_times) (maxL := 3) (ret := (some .int)) (by decide) rfl ?_
  intro p e s m args below meth c s₁ B hml hv
  obtain ⟨rfl, hP, hKK⟩ := hv
  have hK := hKK.1
  have hx := B.exec
  have hb := B.bytes
  have hr := B.returns
  have hts := atoms_spec (ws := wsX4_times) B.pre
  have hown : s.vm.findClass RX4 = some m.cls := findClass_of_methodNamed B.named
  have hlocks := B.notSynchronized
  have hiX4 : ∀ w ∈ wsX40, w ∈ wsX4_times := by decide +kernel
  have hl := lv_entry ([.ref x0, .int x, .int y]) (n := 3) (Nat.le_of_ble_eq_true rfl)
  rw [lg_entry_eq]
  generalize (lg_sl ([.ref x0, .int x, .int y]) ++ List.replicate (3 - (lg_sl ([.ref x0, .int x, .int y])).length) Slot.unset).toArray = ls at hl ⊢
  have hl : lv_has ls 3 [(0, .ref x0), (1, .int x), (2, .int y)] := hl
  have hn6 := ok.1
  refine lv_iload_n hx hb dX4_times_0 rfl (lv_at hl 1 rfl) ?_
  refine rr_callR (va_runS (As := [.int x]) (rest := []) ⟨hx, hb, hml, hown, hts⟩ (c_X4_isRegister l x ) (va_cwS 1 hts gX4_times_X4_isRegister rfl rfl rfl (by decide +kernel) ⟨Nat.le_of_ble_eq_true rfl, Nat.le_of_ble_eq_true rfl⟩) rr_preT rfl rfl hl.1 rfl (lv_room (Nat.le_of_ble_eq_true rfl)) dX4_times_1 ⟨Nat.zero_le _, Nat.zero_le _⟩) ?_
  refine rb_if_eq (tgt := 14) hx hb dX4_times_4 (by decide) (fun c4 => ?_) (fun c4 => ?_)
  · skip
    refine lv_iconst (v := (-1)) hx hb dX4_times_14 (by decide) ?_
    exact rr_iret hx hb hr hlocks dX4_times_15 (rfl)
  refine lv_iload_n hx hb dX4_times_7 rfl (lv_at hl 2 rfl) ?_
  refine rr_callR (va_runS (As := [.int y]) (rest := []) ⟨hx, hb, hml, hown, hts⟩ (c_X4_isRegister l y ) (va_cwS 1 hts gX4_times_X4_isRegister rfl rfl rfl (by decide +kernel) ⟨Nat.le_of_ble_eq_true rfl, Nat.le_of_ble_eq_true rfl⟩) rr_preT rfl rfl hl.1 rfl (lv_room (Nat.le_of_ble_eq_true rfl)) dX4_times_8 ⟨Nat.zero_le _, Nat.zero_le _⟩) ?_
  refine rb_if_ne (tgt := 16) hx hb dX4_times_11 (by decide) (fun c11 => ?_) (fun c11 => ?_)
  · skip
    exact absurd hbad (by rw [c4, c11]; decide)
  refine lv_iconst (v := (-1)) hx hb dX4_times_14 (by decide) ?_
  exact rr_iret hx hb hr hlocks dX4_times_15 (rfl)
set_option maxHeartbeats 4000000 in
set_option maxRecDepth 100000 in
theorem c_X4_take_b (l : Launch) (dC : Nat → ClassId) (dI : Nat → Nat → Nat) (cI cJ cS : ClassId) (x0 t0 k0 sa : Nat) (im : Bool) (b0 h3 hk hw hs hrs hpr hpd : Nat) (n h rg sp dr kn nx : Nat) (kf wf sf : Nat → Int32) (Kd Wd Sh Rr Pr Pd : Nat → Nat) (x y : Int32) (ok : wOk n Kd Wd) (fw : isA n wf Wd) (hbad : (inb x 4 && inb y 4) = false) : Met l yX4_take wsX4_take ({ frames := 2, cells := 0, slots := 0, locals := 80 }) (va_Pc [.ref x0, .int x, .int y] (rB (dC, dI) vwCl [(x0, .inr (4, [.ref t0, .ref b0, .ref k0, .int (bi im), .ref sa])), (b0, .inr (0, [.ref h3, .ref hrs, .int (nI dr), .int (nI kn), .int (nI nx), .ref hpr, .ref hpd])), (h3, .inr (3, [.int (nI n), .int (nI h), .int (nI rg), .int (nI sp), .ref hk, .ref hw, .ref hs])), (hk, .inl (cI, 6, .inl kf)), (hw, .inl (cI, 6, .inl wf)), (hs, .inl (cI, 6, .inl sf)), (hrs, .inl (cI, 24, .inl (nA Rr))), (hpr, .inl (cI, 192, .inl (nA Pr))), (hpd, .inl (cI, 8, .inl (nA Pd)))] (tyz cI cJ cS))) (QcRead (-1)) 0 0 (fun _ => False) := by
  refine Met.ofW (cc := cX4_take) (maxL := 3) (ret := (some .int)) (by decide) rfl ?_
  intro p e s m args below meth c s₁ B hml hv
  obtain ⟨rfl, hP, hKK⟩ := hv
  have hK := hKK.1
  have hx := B.exec
  have hb := B.bytes
  have hr := B.returns
  have hts := atoms_spec (ws := wsX4_take) B.pre
  have hown : s.vm.findClass RX4 = some m.cls := findClass_of_methodNamed B.named
  have hlocks := B.notSynchronized
  have hiX4 : ∀ w ∈ wsX40, w ∈ wsX4_take := by decide +kernel
  have hl := lv_entry ([.ref x0, .int x, .int y]) (n := 3) (Nat.le_of_ble_eq_true rfl)
  rw [lg_entry_eq]
  generalize (lg_sl ([.ref x0, .int x, .int y]) ++ List.replicate (3 - (lg_sl ([.ref x0, .int x, .int y])).length) Slot.unset).toArray = ls at hl ⊢
  have hl : lv_has ls 3 [(0, .ref x0), (1, .int x), (2, .int y)] := hl
  have hn6 := ok.1
  refine lv_iload_n hx hb dX4_take_0 rfl (lv_at hl 1 rfl) ?_
  refine rr_callR (va_runS (As := [.int x]) (rest := []) ⟨hx, hb, hml, hown, hts⟩ (c_X4_isRegister l x ) (va_cwS 1 hts gX4_take_X4_isRegister rfl rfl rfl (by decide +kernel) ⟨Nat.le_of_ble_eq_true rfl, Nat.le_of_ble_eq_true rfl⟩) rr_preT rfl rfl hl.1 rfl (lv_room (Nat.le_of_ble_eq_true rfl)) dX4_take_1 ⟨Nat.zero_le _, Nat.zero_le _⟩) ?_
  refine rb_if_eq (tgt := 19) hx hb dX4_take_4 (by decide) (fun c4 => ?_) (fun c4 => ?_)
  · skip
    refine lv_iconst (v := (-1)) hx hb dX4_take_19 (by decide) ?_
    exact rr_iret hx hb hr hlocks dX4_take_20 (rfl)
  refine lv_iload_n hx hb dX4_take_7 rfl (lv_at hl 2 rfl) ?_
  refine rr_callR (va_runS (As := [.int y]) (rest := []) ⟨hx, hb, hml, hown, hts⟩ (c_X4_isRegister l y ) (va_cwS 1 hts gX4_take_X4_isRegister rfl rfl rfl (by decide +kernel) ⟨Nat.le_of_ble_eq_true rfl, Nat.le_of_ble_eq_true rfl⟩) rr_preT rfl rfl hl.1 rfl (lv_room (Nat.le_of_ble_eq_true rfl)) dX4_take_8 ⟨Nat.zero_le _, Nat.zero_le _⟩) ?_
  refine rb_if_eq (tgt := 19) hx hb dX4_take_11 (by decide) (fun c11 => ?_) (fun c11 => ?_)
  · skip
    refine lv_iconst (v := (-1)) hx hb dX4_take_19 (by decide) ?_
    exact rr_iret hx hb hr hlocks dX4_take_20 (rfl)
  exact absurd hbad (by rw [c4, c11]; decide)
set_option maxHeartbeats 4000000 in
set_option maxRecDepth 100000 in
theorem c_X4_take_s (l : Launch) (dC : Nat → ClassId) (dI : Nat → Nat → Nat) (cI cJ cS : ClassId) (x0 t0 k0 sa : Nat) (im : Bool) (b0 h3 hk hw hs hrs hpr hpd : Nat) (n h rg sp dr kn nx : Nat) (kf wf sf : Nat → Int32) (Kd Wd Sh Rr Pr Pd : Nat → Nat) (r : Nat) (hr4 : r < 4) : Met l yX4_take wsX4_take ({ frames := 2, cells := 0, slots := 0, locals := 80 }) (va_Pc [.ref x0, .int (nI r), .int (nI r)] (rB (dC, dI) vwCl [(x0, .inr (4, [.ref t0, .ref b0, .ref k0, .int (bi im), .ref sa])), (b0, .inr (0, [.ref h3, .ref hrs, .int (nI dr), .int (nI kn), .int (nI nx), .ref hpr, .ref hpd])), (h3, .inr (3, [.int (nI n), .int (nI h), .int (nI rg), .int (nI sp), .ref hk, .ref hw, .ref hs])), (hk, .inl (cI, 6, .inl kf)), (hw, .inl (cI, 6, .inl wf)), (hs, .inl (cI, 6, .inl sf)), (hrs, .inl (cI, 24, .inl (nA Rr))), (hpr, .inl (cI, 192, .inl (nA Pr))), (hpd, .inl (cI, 8, .inl (nA Pd)))] (tyz cI cJ cS))) (QcRead (-1)) 0 0 (fun _ => False) := by
  refine Met.ofW (cc := cX4_take) (maxL := 3) (ret := (some .int)) (by decide) rfl ?_
  intro p e s m args below meth c s₁ B hml hv
  obtain ⟨rfl, hP, hKK⟩ := hv
  have hK := hKK.1
  have hx := B.exec
  have hb := B.bytes
  have hr := B.returns
  have hts := atoms_spec (ws := wsX4_take) B.pre
  have hown : s.vm.findClass RX4 = some m.cls := findClass_of_methodNamed B.named
  have hlocks := B.notSynchronized
  have hiX4 : ∀ w ∈ wsX40, w ∈ wsX4_take := by decide +kernel
  have hl := lv_entry ([.ref x0, .int (nI r), .int (nI r)]) (n := 3) (Nat.le_of_ble_eq_true rfl)
  rw [lg_entry_eq]
  generalize (lg_sl ([.ref x0, .int (nI r), .int (nI r)]) ++ List.replicate (3 - (lg_sl ([.ref x0, .int (nI r), .int (nI r)])).length) Slot.unset).toArray = ls at hl ⊢
  have hl : lv_has ls 3 [(0, .ref x0), (1, .int (nI r)), (2, .int (nI r))] := hl
  refine lv_iload_n hx hb dX4_take_0 rfl (lv_at hl 1 rfl) ?_
  refine rr_callR (va_runS (As := [.int (nI r)]) (rest := []) ⟨hx, hb, hml, hown, hts⟩ (c_X4_isRegister l (nI r) ) (va_cwS 1 hts gX4_take_X4_isRegister rfl rfl rfl (by decide +kernel) ⟨Nat.le_of_ble_eq_true rfl, Nat.le_of_ble_eq_true rfl⟩) rr_preT rfl rfl hl.1 rfl (lv_room (Nat.le_of_ble_eq_true rfl)) dX4_take_1 ⟨Nat.zero_le _, Nat.zero_le _⟩) ?_
  refine rr_top (y := bi true) (congrArg bi (inb_lt (by omega) (by omega))) ?_
  refine rb_if_eq (tgt := 19) hx hb dX4_take_4 (by decide) (fun c4 => ?_) (fun c4 => ?_)
  · exact absurd c4 (by decide)
  refine lv_iload_n hx hb dX4_take_7 rfl (lv_at hl 2 rfl) ?_
  refine rr_callR (va_runS (As := [.int (nI r)]) (rest := []) ⟨hx, hb, hml, hown, hts⟩ (c_X4_isRegister l (nI r) ) (va_cwS 1 hts gX4_take_X4_isRegister rfl rfl rfl (by decide +kernel) ⟨Nat.le_of_ble_eq_true rfl, Nat.le_of_ble_eq_true rfl⟩) rr_preT rfl rfl hl.1 rfl (lv_room (Nat.le_of_ble_eq_true rfl)) dX4_take_8 ⟨Nat.zero_le _, Nat.zero_le _⟩) ?_
  refine rr_top (y := bi true) (congrArg bi (inb_lt (by omega) (by omega))) ?_
  refine rb_if_eq (tgt := 19) hx hb dX4_take_11 (by decide) (fun c11 => ?_) (fun c11 => ?_)
  · exact absurd c11 (by decide)
  refine lv_iload_n hx hb dX4_take_14 rfl (lv_at hl 1 rfl) ?_
  refine lv_iload_n hx hb dX4_take_15 rfl (lv_at hl 2 rfl) ?_
  refine rn_icmp_ne (tgt := 21) hx hb dX4_take_16 (by decide) (by omega) (by omega) (fun c16 => ?_) (fun c16 => ?_)
  · skip
    exact absurd rfl c16
  refine lv_iconst (v := (-1)) hx hb dX4_take_19 (by decide) ?_
  exact rr_iret hx hb hr hlocks dX4_take_20 (rfl)
set_option maxHeartbeats 4000000 in
set_option maxRecDepth 100000 in
theorem c_X4_negate_b (l : Launch) (dC : Nat → ClassId) (dI : Nat → Nat → Nat) (cI cJ cS : ClassId) (x0 t0 k0 sa : Nat) (im : Bool) (b0 h3 hk hw hs hrs hpr hpd : Nat) (n h rg sp dr kn nx : Nat) (kf wf sf : Nat → Int32) (Kd Wd Sh Rr Pr Pd : Nat → Nat) (x : Int32) (ok : wOk n Kd Wd) (fw : isA n wf Wd) (hbad : (inb x 4) = false) : Met l yX4_negate wsX4_negate ({ frames := 2, cells := 0, slots := 0, locals := 80 }) (va_Pc [.ref x0, .int x] (rB (dC, dI) vwCl [(x0, .inr (4, [.ref t0, .ref b0, .ref k0, .int (bi im), .ref sa])), (b0, .inr (0, [.ref h3, .ref hrs, .int (nI dr), .int (nI kn), .int (nI nx), .ref hpr, .ref hpd])), (h3, .inr (3, [.int (nI n), .int (nI h), .int (nI rg), .int (nI sp), .ref hk, .ref hw, .ref hs])), (hk, .inl (cI, 6, .inl kf)), (hw, .inl (cI, 6, .inl wf)), (hs, .inl (cI, 6, .inl sf)), (hrs, .inl (cI, 24, .inl (nA Rr))), (hpr, .inl (cI, 192, .inl (nA Pr))), (hpd, .inl (cI, 8, .inl (nA Pd)))] (tyz cI cJ cS))) (QcRead (-1)) 0 0 (fun _ => False) := by
  refine Met.ofW (cc := cX4_negate) (maxL := 2) (ret := (some .int)) (by decide) rfl ?_
  intro p e s m args below meth c s₁ B hml hv
  obtain ⟨rfl, hP, hKK⟩ := hv
  have hK := hKK.1
  have hx := B.exec
  have hb := B.bytes
  have hr := B.returns
  have hts := atoms_spec (ws := wsX4_negate) B.pre
  have hown : s.vm.findClass RX4 = some m.cls := findClass_of_methodNamed B.named
  have hlocks := B.notSynchronized
  have hiX4 : ∀ w ∈ wsX40, w ∈ wsX4_negate := by decide +kernel
  have hl := lv_entry ([.ref x0, .int x]) (n := 2) (Nat.le_of_ble_eq_true rfl)
  rw [lg_entry_eq]
  generalize (lg_sl ([.ref x0, .int x]) ++ List.replicate (2 - (lg_sl ([.ref x0, .int x])).length) Slot.unset).toArray = ls at hl ⊢
  have hl : lv_has ls 2 [(0, .ref x0), (1, .int x)] := hl
  have hn6 := ok.1
  refine lv_iload_n hx hb dX4_negate_0 rfl (lv_at hl 1 rfl) ?_
  refine rr_callR (va_runS (As := [.int x]) (rest := []) ⟨hx, hb, hml, hown, hts⟩ (c_X4_isRegister l x ) (va_cwS 1 hts gX4_negate_X4_isRegister rfl rfl rfl (by decide +kernel) ⟨Nat.le_of_ble_eq_true rfl, Nat.le_of_ble_eq_true rfl⟩) rr_preT rfl rfl hl.1 rfl (lv_room (Nat.le_of_ble_eq_true rfl)) dX4_negate_1 ⟨Nat.zero_le _, Nat.zero_le _⟩) ?_
  refine rb_if_ne (tgt := 9) hx hb dX4_negate_4 (by decide) (fun c4 => ?_) (fun c4 => ?_)
  · skip
    exact absurd hbad (by rw [c4]; decide)
  refine lv_iconst (v := (-1)) hx hb dX4_negate_7 (by decide) ?_
  exact rr_iret hx hb hr hlocks dX4_negate_8 (rfl)
set_option maxHeartbeats 4000000 in
set_option maxRecDepth 100000 in
theorem c_X4_slip_g (l : Launch) (dC : Nat → ClassId) (dI : Nat → Nat → Nat) (cI cJ cS : ClassId) (sz : Nat) (x0 t0 k0 sa : Nat) (im : Bool) (b0 h3 hk hw hs hrs hpr hpd : Nat) (n h rg sp dr kn nx : Nat) (kf wf sf : Nat → Int32) (Kd Wd Sh Rr Pr Pd : Nat → Nat) (r k x : Nat) (ok : wOk n Kd Wd) (fw : isA n wf Wd) (hR : rOk n Wd Rr) (hnx : nx < 8) (hkn : kn ≤ 8) (hr4 : r < 4) (hk2 : k < n) (hx2 : x < Wd k) (hne : Rr (r * 6 + k) ≠ x) : Met l yX4_slip wsX4_slip ({ frames := 2, cells := 0, slots := 0, locals := 80 }) (va_Pc [.ref x0, .int (nI r), .int (nI k), .int (nI x)] (rW (dC, dI) vwCl [(x0, .inr (4, [.ref t0, .ref b0, .ref k0, .int (bi im), .ref sa])), (b0, .inr (0, [.ref h3, .ref hrs, .int (nI dr), .int (nI kn), .int (nI nx), .ref hpr, .ref hpd])), (h3, .inr (3, [.int (nI n), .int (nI h), .int (nI rg), .int (nI sp), .ref hk, .ref hw, .ref hs])), (hk, .inl (cI, 6, .inl kf)), (hw, .inl (cI, 6, .inl wf)), (hs, .inl (cI, 6, .inl sf)), (hrs, .inl (cI, 24, .inl (nA Rr))), (hpr, .inl (cI, 192, .inl (nA Pr))), (hpd, .inl (cI, 8, .inl (nA Pd)))] (tyz cI cJ cS) sz)) (qI (nI (Rr (r * 6 + k))) (dC, dI) vwCl [(x0, .inr (4, [.ref t0, .ref b0, .ref k0, .int (bi im), .ref sa])), (b0, .inr (0, [.ref h3, .ref hrs, .int (nI dr), .int (nI (min (kn + 1) 8)), .int (nI ((nx + 1) % 8)), .ref hpr, .ref hpd])), (h3, .inr (3, [.int (nI n), .int (nI h), .int (nI rg), .int (nI sp), .ref hk, .ref hw, .ref hs])), (hk, .inl (cI, 6, .inl kf)), (hw, .inl (cI, 6, .inl wf)), (hs, .inl (cI, 6, .inl sf)), (hrs, .inl (cI, 24, .inl (nA (uN Rr (r * 6 + k) x)))), (hpr, .inl (cI, 192, .inl (nA (cpN Rr Pr 0 (nx * 24) 24)))), (hpd, .inl (cI, 8, .inl (nA (uN Pd nx dr))))] (va_A [(x0, .inr (4, [.ref t0, .ref b0, .ref k0, .int (bi im), .ref sa])), (b0, .inr (0, [.ref h3, .ref hrs, .int (nI dr), .int (nI kn), .int (nI nx), .ref hpr, .ref hpd])), (h3, .inr (3, [.int (nI n), .int (nI h), .int (nI rg), .int (nI sp), .ref hk, .ref hw, .ref hs])), (hk, .inl (cI, 6, .inl kf)), (hw, .inl (cI, 6, .inl wf)), (hs, .inl (cI, 6, .inl sf)), (hrs, .inl (cI, 24, .inl (nA Rr))), (hpr, .inl (cI, 192, .inl (nA Pr))), (hpd, .inl (cI, 8, .inl (nA Pd)))] sz)) 0 0 (va_A [(x0, .inr (4, [.ref t0, .ref b0, .ref k0, .int (bi im), .ref sa])), (b0, .inr (0, [.ref h3, .ref hrs, .int (nI dr), .int (nI kn), .int (nI nx), .ref hpr, .ref hpd])), (h3, .inr (3, [.int (nI n), .int (nI h), .int (nI rg), .int (nI sp), .ref hk, .ref hw, .ref hs])), (hk, .inl (cI, 6, .inl kf)), (hw, .inl (cI, 6, .inl wf)), (hs, .inl (cI, 6, .inl sf)), (hrs, .inl (cI, 24, .inl (nA Rr))), (hpr, .inl (cI, 192, .inl (nA Pr))), (hpd, .inl (cI, 8, .inl (nA Pd)))] sz) := by
  refine Met.ofW (cc := cX4_slip) (maxL := 5) (ret := (some .int)) (by decide) rfl ?_
  intro p e s m args below meth c s₁ B hml hv
  obtain ⟨rfl, hsz, hP, hKK, hD0⟩ := hv
  have hK := hKK.1
  have hx := B.exec
  have hb := B.bytes
  have hr := B.returns
  have hts := atoms_spec (ws := wsX4_slip) B.pre
  have hown : s.vm.findClass RX4 = some m.cls := findClass_of_methodNamed B.named
  have hlocks := B.notSynchronized
  subst hsz
  have hD := hD0.self (sz := s.heap.size)
  generalize hAe : va_A [(x0, .inr (4, [.ref t0, .ref b0, .ref k0, .int (bi im), .ref sa])), (b0, .inr (0, [.ref h3, .ref hrs, .int (nI dr), .int (nI kn), .int (nI nx), .ref hpr, .ref hpd])), (h3, .inr (3, [.int (nI n), .int (nI h), .int (nI rg), .int (nI sp), .ref hk, .ref hw, .ref hs])), (hk, .inl (cI, 6, .inl kf)), (hw, .inl (cI, 6, .inl wf)), (hs, .inl (cI, 6, .inl sf)), (hrs, .inl (cI, 24, .inl (nA Rr))), (hpr, .inl (cI, 192, .inl (nA Pr))), (hpd, .inl (cI, 8, .inl (nA Pd)))] s.heap.size = A at hD ⊢
  have hA : ∀ q : Nat, s.heap.size ≤ q → A q := fun q h => by rw [← hAe]; exact Or.inr h
  have hS : va_S A s.heap s.heap [] := va_S.rf
  have hP : va_P (dC, dI) vwCl [(x0, .inr (4, [.ref t0, .ref b0, .ref k0, .int (bi im), .ref sa])), (b0, .inr (0, [.ref h3, .ref hrs, .int (nI dr), .int (nI kn), .int (nI nx), .ref hpr, .ref hpd])), (h3, .inr (3, [.int (nI n), .int (nI h), .int (nI rg), .int (nI sp), .ref hk, .ref hw, .ref hs])), (hk, .inl (cI, 6, .inl kf)), (hw, .inl (cI, 6, .inl wf)), (hs, .inl (cI, 6, .inl sf)), (hrs, .inl (cI, 24, .inl (nA Rr))), (hpr, .inl (cI, 192, .inl (nA Pr))), (hpd, .inl (cI, 8, .inl (nA Pd)))] s.heap := hP
  have hiX0 : ∀ w ∈ wsX00, w ∈ wsX4_slip := by decide +kernel
  have hiX3 : ∀ w ∈ wsX30, w ∈ wsX4_slip := by decide +kernel
  have hiX4 : ∀ w ∈ wsX40, w ∈ wsX4_slip := by decide +kernel
  have hl := lv_entry ([.ref x0, .int (nI r), .int (nI k), .int (nI x)]) (n := 5) (Nat.le_of_ble_eq_true rfl)
  rw [lg_entry_eq]
  generalize (lg_sl ([.ref x0, .int (nI r), .int (nI k), .int (nI x)]) ++ List.replicate (5 - (lg_sl ([.ref x0, .int (nI r), .int (nI k), .int (nI x)])).length) Slot.unset).toArray = ls at hl ⊢
  have hl : lv_has ls 5 [(0, .ref x0), (1, .int (nI r)), (2, .int (nI k)), (3, .int (nI x))] := hl
  have hn6 := ok.1
  have hrw := hR r k hr4 hk2
  have hw8 := ok.2.2.1 k hk2
  refine lv_iload_n hx hb dX4_slip_0 rfl (lv_at hl 1 rfl) ?_
  refine rr_callR (va_runS (As := [.int (nI r)]) (rest := []) ⟨hx, hb, hml, hown, hts⟩ (c_X4_isRegister l (nI r) ) (va_cwS 1 hts gX4_slip_X4_isRegister rfl rfl rfl (by decide +kernel) ⟨Nat.le_of_ble_eq_true rfl, Nat.le_of_ble_eq_true rfl⟩) rr_preT rfl rfl hl.1 rfl (lv_room (Nat.le_of_ble_eq_true rfl)) dX4_slip_1 ⟨Nat.zero_le _, Nat.zero_le _⟩) ?_
  refine rr_top (y := bi true) (congrArg bi (inb_lt (by omega) (by omega))) ?_
  refine rb_if_eq (tgt := 34) hx hb dX4_slip_4 (by decide) (fun c4 => ?_) (fun c4 => ?_)
  · exact absurd c4 (by decide)
  refine lv_aload_n hx hb dX4_slip_7 rfl (lv_at hl 0 rfl) ?_
  refine lv_iload_n hx hb dX4_slip_8 rfl (lv_at hl 2 rfl) ?_
  refine rr_callR (va_runV (As := [.int (nI k)]) (rest := []) ⟨hx, hb, hml, hown, hts⟩ (c_X4_isWheel l dC dI cI cJ cS x0 t0 k0 sa im b0 h3 hk hw hs hrs hpr hpd n h rg sp dr kn nx kf wf sf Kd Wd Sh Rr Pr Pd (nI k) (by first | assumption | omega)) (cwV 1 hts gX4_slip_X4_isWheel rfl rfl rfl (by decide +kernel) ⟨Nat.le_of_ble_eq_true rfl, Nat.le_of_ble_eq_true rfl⟩) (rr_preV hKK hP rfl rfl) rfl rfl hl.1 rfl (lv_room (Nat.le_of_ble_eq_true rfl)) dX4_slip_9 ⟨Nat.zero_le _, Nat.zero_le _⟩) ?_
  refine rr_top (y := bi true) (congrArg bi (inb_lt (by omega) (by omega))) ?_
  refine rb_if_eq (tgt := 34) hx hb dX4_slip_12 (by decide) (fun c12 => ?_) (fun c12 => ?_)
  · exact absurd c12 (by decide)
  refine lv_iload_n hx hb dX4_slip_15 rfl (lv_at hl 3 rfl) ?_
  refine lv_aload_n hx hb dX4_slip_16 rfl (lv_at hl 0 rfl) ?_
  refine va_get (D := (dC, dI)) (ci := 4) (v := .ref b0) (C := RX4) (T := TX4) (N := 5) hx hb hts hiX4 hown hK hP 0 rfl rfl 1 (by decide) (hts (.fieldLink RX4 19 "RestRegisters" "now" "LRestRegisters$Bank;") (by decide +kernel)) (fun _ h9 => h9) rfl dX4_slip_17 ?_
  refine va_get (D := (dC, dI)) (ci := 0) (v := .ref h3) (C := RX0) (T := TX0) (N := 7) hx hb hts hiX0 hown hK hP 1 rfl rfl 0 (by decide) (hts (.fieldLink RX4 61 "RestRegisters$Bank" "wheels" "LRestRegisters$Wheels;") (by decide +kernel)) (fun _ h9 => h9) rfl dX4_slip_20 ?_
  refine va_get (D := (dC, dI)) (ci := 3) (v := .ref hw) (C := RX3) (T := TX3) (N := 7) hx hb hts hiX3 hown hK hP 2 rfl rfl 5 (by decide) (hts (.fieldLink RX4 70 "RestRegisters$Wheels" "widths" "[I") (by decide +kernel)) (fun _ h9 => h9) rfl dX4_slip_23 ?_
  refine lv_iload_n hx hb dX4_slip_26 rfl (lv_at hl 2 rfl) ?_
  refine rn_iald hx hb hK hP 4 0 rfl rfl (i := k) (by omega) (by decide) (v := (nI (Wd k))) (fw k (by omega)) dX4_slip_27 ?_
  have hv27 := ok.2.2.1 k (by omega)
  refine rr_callR (va_runS (As := [.int (nI x), .int (nI (Wd k))]) (rest := []) ⟨hx, hb, hml, hown, hts⟩ (c_X4_isBelow l (nI x) (Wd k) (by first | assumption | omega)) (va_cwS 2 hts gX4_slip_X4_isBelow rfl rfl rfl (by decide +kernel) ⟨Nat.le_of_ble_eq_true rfl, Nat.le_of_ble_eq_true rfl⟩) rr_preT rfl rfl hl.1 rfl (lv_room (Nat.le_of_ble_eq_true rfl)) dX4_slip_28 ⟨Nat.zero_le _, Nat.zero_le _⟩) ?_
  refine rr_top (y := bi true) (congrArg bi (inb_lt (by omega) (by omega))) ?_
  refine rb_if_ne (tgt := 36) hx hb dX4_slip_31 (by decide) (fun c31 => ?_) (fun c31 => ?_)
  rotate_left
  · exact absurd c31 (by decide)
  refine lv_aload_n hx hb dX4_slip_36 rfl (lv_at hl 0 rfl) ?_
  refine va_get (D := (dC, dI)) (ci := 4) (v := .ref b0) (C := RX4) (T := TX4) (N := 5) hx hb hts hiX4 hown hK hP 0 rfl rfl 1 (by decide) (hts (.fieldLink RX4 19 "RestRegisters" "now" "LRestRegisters$Bank;") (by decide +kernel)) (fun _ h9 => h9) rfl dX4_slip_37 ?_
  refine lv_iload_n hx hb dX4_slip_40 rfl (lv_at hl 1 rfl) ?_
  refine lv_iload_n hx hb dX4_slip_41 rfl (lv_at hl 2 rfl) ?_
  refine rr_callR (va_runV (As := [.int (nI r), .int (nI k)]) (rest := []) ⟨hx, hb, hml, hown, hts⟩ (c_X0_shown l dC dI cI cJ cS b0 h3 hrs hpr hpd dr kn nx Rr r k (by first | assumption | omega) (by first | assumption | omega)) (cwV 2 hts gX4_slip_X0_shown rfl rfl rfl (by decide +kernel) ⟨Nat.le_of_ble_eq_true rfl, Nat.le_of_ble_eq_true rfl⟩) (rr_preV hKK (hP.sub [1, 6] rfl) rfl rfl) rfl rfl hl.1 rfl (lv_room (Nat.le_of_ble_eq_true rfl)) dX4_slip_42 ⟨Nat.zero_le _, Nat.zero_le _⟩) ?_
  refine lv_istore (lv' := [(4, .int (nI (Rr (r * 6 + k)))), (0, .ref x0), (1, .int (nI r)), (2, .int (nI k)), (3, .int (nI x))]) hx hb dX4_slip_45 hl (by decide) rfl (fun ls hl => ?_)
  refine lv_iload hx hb dX4_slip_47 (lv_at hl 0 rfl) ?_
  refine lv_iload_n hx hb dX4_slip_49 rfl (lv_at hl 4 rfl) ?_
  refine rn_icmp_ne (tgt := 56) hx hb dX4_slip_50 (by decide) (by omega) (by omega) (fun c50 => ?_) (fun c50 => ?_)
  · skip
    refine lv_aload_n hx hb dX4_slip_56 rfl (lv_at hl 1 rfl) ?_
    refine va_get (D := (dC, dI)) (ci := 4) (v := .ref b0) (C := RX4) (T := TX4) (N := 5) hx hb hts hiX4 hown hK hP 0 rfl rfl 1 (by decide) (hts (.fieldLink RX4 19 "RestRegisters" "now" "LRestRegisters$Bank;") (by decide +kernel)) (fun _ h9 => h9) rfl dX4_slip_57 ?_
    refine rw_callv (va_runV (As := []) (rest := []) ⟨hx, hb, hml, hown, hts⟩ (c_X0_remember l dC dI cI cJ cS _ b0 h3 hk hw hs hrs hpr hpd n h rg sp dr kn nx kf wf sf Kd Wd Sh Rr Pr Pd (by first | assumption | omega) (by first | assumption | omega)) (cwV 0 hts gX4_slip_X0_remember rfl rfl rfl (by decide +kernel) ⟨Nat.le_of_ble_eq_true rfl, Nat.le_of_ble_eq_true rfl⟩) (rw_preV hKK (hP.sub [1, 2, 3, 4, 5, 6, 7, 8] rfl) (hD.sub [1, 2, 3, 4, 5, 6, 7, 8] (by decide) rfl) rfl rfl) rfl rfl hl.1 rfl (lv_room (Nat.le_of_ble_eq_true rfl)) dX4_slip_60 ⟨Nat.zero_le _, Nat.zero_le _⟩) (wr := [(x0, .inr (4, [.ref t0, .ref b0, .ref k0, .int (bi im), .ref sa]))]) hP hD hS hA [1, 2, 3, 4, 5, 6, 7, 8] [0] rfl rfl (by decide) (by decide) (fun H locs hP hD hS => ?_)
    have hP : va_P (dC, dI) vwCl [(x0, .inr (4, [.ref t0, .ref b0, .ref k0, .int (bi im), .ref sa])), (b0, .inr (0, [.ref h3, .ref hrs, .int (nI dr), .int (nI (min (kn + 1) 8)), .int (nI ((nx + 1) % 8)), .ref hpr, .ref hpd])), (h3, .inr (3, [.int (nI n), .int (nI h), .int (nI rg), .int (nI sp), .ref hk, .ref hw, .ref hs])), (hk, .inl (cI, 6, .inl kf)), (hw, .inl (cI, 6, .inl wf)), (hs, .inl (cI, 6, .inl sf)), (hrs, .inl (cI, 24, .inl (nA Rr))), (hpr, .inl (cI, 192, .inl (nA (cpN Rr Pr 0 (nx * 24) 24)))), (hpd, .inl (cI, 8, .inl (nA (uN Pd nx dr))))] H := hP.sub [0, 1, 2, 3, 4, 5, 6, 7, 8] rfl
    have hD : va_D A [(x0, .inr (4, [.ref t0, .ref b0, .ref k0, .int (bi im), .ref sa])), (b0, .inr (0, [.ref h3, .ref hrs, .int (nI dr), .int (nI (min (kn + 1) 8)), .int (nI ((nx + 1) % 8)), .ref hpr, .ref hpd])), (h3, .inr (3, [.int (nI n), .int (nI h), .int (nI rg), .int (nI sp), .ref hk, .ref hw, .ref hs])), (hk, .inl (cI, 6, .inl kf)), (hw, .inl (cI, 6, .inl wf)), (hs, .inl (cI, 6, .inl sf)), (hrs, .inl (cI, 24, .inl (nA Rr))), (hpr, .inl (cI, 192, .inl (nA (cpN Rr Pr 0 (nx * 24) 24)))), (hpd, .inl (cI, 8, .inl (nA (uN Pd nx dr))))] := hD.sub [0, 1, 2, 3, 4, 5, 6, 7, 8] (by decide) rfl
    refine lv_aload_n hx hb dX4_slip_63 rfl (lv_at hl 1 rfl) ?_
    refine va_get (D := (dC, dI)) (ci := 4) (v := .ref b0) (C := RX4) (T := TX4) (N := 5) hx hb hts hiX4 hown hK hP 0 rfl rfl 1 (by decide) (hts (.fieldLink RX4 19 "RestRegisters" "now" "LRestRegisters$Bank;") (by decide +kernel)) (fun _ h9 => h9) rfl dX4_slip_64 ?_
    refine lv_iload_n hx hb dX4_slip_67 rfl (lv_at hl 2 rfl) ?_
    refine lv_iload_n hx hb dX4_slip_68 rfl (lv_at hl 3 rfl) ?_
    refine lv_iload_n hx hb dX4_slip_69 rfl (lv_at hl 4 rfl) ?_
    refine rw_callv (va_runV (As := [.int (nI r), .int (nI k), .int (nI x)]) (rest := []) ⟨hx, hb, hml, hown, hts⟩ (c_X0_show l dC dI cI cJ cS _ b0 h3 hrs hpr hpd dr (min (kn + 1) 8) ((nx + 1) % 8) Rr r k x (by first | assumption | omega) (by first | assumption | omega)) (cwV 3 hts gX4_slip_X0_show rfl rfl rfl (by decide +kernel) ⟨Nat.le_of_ble_eq_true rfl, Nat.le_of_ble_eq_true rfl⟩) (rw_preV hKK (hP.sub [1, 6] rfl) (hD.sub [1, 6] (by decide) rfl) rfl rfl) rfl rfl hl.1 rfl (lv_room (Nat.le_of_ble_eq_true rfl)) dX4_slip_70 ⟨Nat.zero_le _, Nat.zero_le _⟩) (wr := [(x0, .inr (4, [.ref t0, .ref b0, .ref k0, .int (bi im), .ref sa])), (h3, .inr (3, [.int (nI n), .int (nI h), .int (nI rg), .int (nI sp), .ref hk, .ref hw, .ref hs])), (hk, .inl (cI, 6, .inl kf)), (hw, .inl (cI, 6, .inl wf)), (hs, .inl (cI, 6, .inl sf)), (hpr, .inl (cI, 192, .inl (nA (cpN Rr Pr 0 (nx * 24) 24)))), (hpd, .inl (cI, 8, .inl (nA (uN Pd nx dr))))]) hP hD hS hA [1, 6] [0, 2, 3, 4, 5, 7, 8] rfl rfl (by decide) (by decide) (fun H locs hP hD hS => ?_)
    have hP : va_P (dC, dI) vwCl [(x0, .inr (4, [.ref t0, .ref b0, .ref k0, .int (bi im), .ref sa])), (b0, .inr (0, [.ref h3, .ref hrs, .int (nI dr), .int (nI (min (kn + 1) 8)), .int (nI ((nx + 1) % 8)), .ref hpr, .ref hpd])), (h3, .inr (3, [.int (nI n), .int (nI h), .int (nI rg), .int (nI sp), .ref hk, .ref hw, .ref hs])), (hk, .inl (cI, 6, .inl kf)), (hw, .inl (cI, 6, .inl wf)), (hs, .inl (cI, 6, .inl sf)), (hrs, .inl (cI, 24, .inl (nA (uN Rr (r * 6 + k) x)))), (hpr, .inl (cI, 192, .inl (nA (cpN Rr Pr 0 (nx * 24) 24)))), (hpd, .inl (cI, 8, .inl (nA (uN Pd nx dr))))] H := hP.sub [0, 7, 1, 2, 3, 4, 8, 5, 6] rfl
    have hD : va_D A [(x0, .inr (4, [.ref t0, .ref b0, .ref k0, .int (bi im), .ref sa])), (b0, .inr (0, [.ref h3, .ref hrs, .int (nI dr), .int (nI (min (kn + 1) 8)), .int (nI ((nx + 1) % 8)), .ref hpr, .ref hpd])), (h3, .inr (3, [.int (nI n), .int (nI h), .int (nI rg), .int (nI sp), .ref hk, .ref hw, .ref hs])), (hk, .inl (cI, 6, .inl kf)), (hw, .inl (cI, 6, .inl wf)), (hs, .inl (cI, 6, .inl sf)), (hrs, .inl (cI, 24, .inl (nA (uN Rr (r * 6 + k) x)))), (hpr, .inl (cI, 192, .inl (nA (cpN Rr Pr 0 (nx * 24) 24)))), (hpd, .inl (cI, 8, .inl (nA (uN Pd nx dr))))] := hD.sub [0, 7, 1, 2, 3, 4, 8, 5, 6] (by decide) rfl
    refine lv_iload hx hb dX4_slip_73 (lv_at hl 0 rfl) ?_
    exact rr_iretW hx hb hr hlocks dX4_slip_75 hP hD hS (rfl)
  exact absurd c50 hne
set_option maxHeartbeats 4000000 in
set_option maxRecDepth 100000 in
theorem c_X4_slip_n (l : Launch) (dC : Nat → ClassId) (dI : Nat → Nat → Nat) (cI cJ cS : ClassId) (x0 t0 k0 sa : Nat) (im : Bool) (b0 h3 hk hw hs hrs hpr hpd : Nat) (n h rg sp dr kn nx : Nat) (kf wf sf : Nat → Int32) (Kd Wd Sh Rr Pr Pd : Nat → Nat) (r k x : Nat) (ok : wOk n Kd Wd) (fw : isA n wf Wd) (hR : rOk n Wd Rr) (hnx : nx < 8) (hkn : kn ≤ 8) (hr4 : r < 4) (hk2 : k < n) (hx2 : x < Wd k) (hne : Rr (r * 6 + k) = x) : Met l yX4_slip wsX4_slip ({ frames := 2, cells := 0, slots := 0, locals := 80 }) (va_Pc [.ref x0, .int (nI r), .int (nI k), .int (nI x)] (rB (dC, dI) vwCl [(x0, .inr (4, [.ref t0, .ref b0, .ref k0, .int (bi im), .ref sa])), (b0, .inr (0, [.ref h3, .ref hrs, .int (nI dr), .int (nI kn), .int (nI nx), .ref hpr, .ref hpd])), (h3, .inr (3, [.int (nI n), .int (nI h), .int (nI rg), .int (nI sp), .ref hk, .ref hw, .ref hs])), (hk, .inl (cI, 6, .inl kf)), (hw, .inl (cI, 6, .inl wf)), (hs, .inl (cI, 6, .inl sf)), (hrs, .inl (cI, 24, .inl (nA Rr))), (hpr, .inl (cI, 192, .inl (nA Pr))), (hpd, .inl (cI, 8, .inl (nA Pd)))] (tyz cI cJ cS))) (QcRead (-2)) 0 0 (fun _ => False) := by
  refine Met.ofW (cc := cX4_slip) (maxL := 5) (ret := (some .int)) (by decide) rfl ?_
  intro p e s m args below meth c s₁ B hml hv
  obtain ⟨rfl, hP, hKK⟩ := hv
  have hK := hKK.1
  have hx := B.exec
  have hb := B.bytes
  have hr := B.returns
  have hts := atoms_spec (ws := wsX4_slip) B.pre
  have hown : s.vm.findClass RX4 = some m.cls := findClass_of_methodNamed B.named
  have hlocks := B.notSynchronized
  have hiX0 : ∀ w ∈ wsX00, w ∈ wsX4_slip := by decide +kernel
  have hiX3 : ∀ w ∈ wsX30, w ∈ wsX4_slip := by decide +kernel
  have hiX4 : ∀ w ∈ wsX40, w ∈ wsX4_slip := by decide +kernel
  have hl := lv_entry ([.ref x0, .int (nI r), .int (nI k), .int (nI x)]) (n := 5) (Nat.le_of_ble_eq_true rfl)
  rw [lg_entry_eq]
  generalize (lg_sl ([.ref x0, .int (nI r), .int (nI k), .int (nI x)]) ++ List.replicate (5 - (lg_sl ([.ref x0, .int (nI r), .int (nI k), .int (nI x)])).length) Slot.unset).toArray = ls at hl ⊢
  have hl : lv_has ls 5 [(0, .ref x0), (1, .int (nI r)), (2, .int (nI k)), (3, .int (nI x))] := hl
  have hn6 := ok.1
  have hrw := hR r k hr4 hk2
  have hw8 := ok.2.2.1 k hk2
  refine lv_iload_n hx hb dX4_slip_0 rfl (lv_at hl 1 rfl) ?_
  refine rr_callR (va_runS (As := [.int (nI r)]) (rest := []) ⟨hx, hb, hml, hown, hts⟩ (c_X4_isRegister l (nI r) ) (va_cwS 1 hts gX4_slip_X4_isRegister rfl rfl rfl (by decide +kernel) ⟨Nat.le_of_ble_eq_true rfl, Nat.le_of_ble_eq_true rfl⟩) rr_preT rfl rfl hl.1 rfl (lv_room (Nat.le_of_ble_eq_true rfl)) dX4_slip_1 ⟨Nat.zero_le _, Nat.zero_le _⟩) ?_
  refine rr_top (y := bi true) (congrArg bi (inb_lt (by omega) (by omega))) ?_
  refine rb_if_eq (tgt := 34) hx hb dX4_slip_4 (by decide) (fun c4 => ?_) (fun c4 => ?_)
  · exact absurd c4 (by decide)
  refine lv_aload_n hx hb dX4_slip_7 rfl (lv_at hl 0 rfl) ?_
  refine lv_iload_n hx hb dX4_slip_8 rfl (lv_at hl 2 rfl) ?_
  refine rr_callR (va_runV (As := [.int (nI k)]) (rest := []) ⟨hx, hb, hml, hown, hts⟩ (c_X4_isWheel l dC dI cI cJ cS x0 t0 k0 sa im b0 h3 hk hw hs hrs hpr hpd n h rg sp dr kn nx kf wf sf Kd Wd Sh Rr Pr Pd (nI k) (by first | assumption | omega)) (cwV 1 hts gX4_slip_X4_isWheel rfl rfl rfl (by decide +kernel) ⟨Nat.le_of_ble_eq_true rfl, Nat.le_of_ble_eq_true rfl⟩) (rr_preV hKK hP rfl rfl) rfl rfl hl.1 rfl (lv_room (Nat.le_of_ble_eq_true rfl)) dX4_slip_9 ⟨Nat.zero_le _, Nat.zero_le _⟩) ?_
  refine rr_top (y := bi true) (congrArg bi (inb_lt (by omega) (by omega))) ?_
  refine rb_if_eq (tgt := 34) hx hb dX4_slip_12 (by decide) (fun c12 => ?_) (fun c12 => ?_)
  · exact absurd c12 (by decide)
  refine lv_iload_n hx hb dX4_slip_15 rfl (lv_at hl 3 rfl) ?_
  refine lv_aload_n hx hb dX4_slip_16 rfl (lv_at hl 0 rfl) ?_
  refine va_get (D := (dC, dI)) (ci := 4) (v := .ref b0) (C := RX4) (T := TX4) (N := 5) hx hb hts hiX4 hown hK hP 0 rfl rfl 1 (by decide) (hts (.fieldLink RX4 19 "RestRegisters" "now" "LRestRegisters$Bank;") (by decide +kernel)) (fun _ h9 => h9) rfl dX4_slip_17 ?_
  refine va_get (D := (dC, dI)) (ci := 0) (v := .ref h3) (C := RX0) (T := TX0) (N := 7) hx hb hts hiX0 hown hK hP 1 rfl rfl 0 (by decide) (hts (.fieldLink RX4 61 "RestRegisters$Bank" "wheels" "LRestRegisters$Wheels;") (by decide +kernel)) (fun _ h9 => h9) rfl dX4_slip_20 ?_
  refine va_get (D := (dC, dI)) (ci := 3) (v := .ref hw) (C := RX3) (T := TX3) (N := 7) hx hb hts hiX3 hown hK hP 2 rfl rfl 5 (by decide) (hts (.fieldLink RX4 70 "RestRegisters$Wheels" "widths" "[I") (by decide +kernel)) (fun _ h9 => h9) rfl dX4_slip_23 ?_
  refine lv_iload_n hx hb dX4_slip_26 rfl (lv_at hl 2 rfl) ?_
  refine rn_iald hx hb hK hP 4 0 rfl rfl (i := k) (by omega) (by decide) (v := (nI (Wd k))) (fw k (by omega)) dX4_slip_27 ?_
  have hv27 := ok.2.2.1 k (by omega)
  refine rr_callR (va_runS (As := [.int (nI x), .int (nI (Wd k))]) (rest := []) ⟨hx, hb, hml, hown, hts⟩ (c_X4_isBelow l (nI x) (Wd k) (by first | assumption | omega)) (va_cwS 2 hts gX4_slip_X4_isBelow rfl rfl rfl (by decide +kernel) ⟨Nat.le_of_ble_eq_true rfl, Nat.le_of_ble_eq_true rfl⟩) rr_preT rfl rfl hl.1 rfl (lv_room (Nat.le_of_ble_eq_true rfl)) dX4_slip_28 ⟨Nat.zero_le _, Nat.zero_le _⟩) ?_
  refine rr_top (y := bi true) (congrArg bi (inb_lt (by omega) (by omega))) ?_
  refine rb_if_ne (tgt := 36) hx hb dX4_slip_31 (by decide) (fun c31 => ?_) (fun c31 => ?_)
  rotate_left
  · exact absurd c31 (by decide)
  refine lv_aload_n hx hb dX4_slip_36 rfl (lv_at hl 0 rfl) ?_
  refine va_get (D := (dC, dI)) (ci := 4) (v := .ref b0) (C := RX4) (T := TX4) (N := 5) hx hb hts hiX4 hown hK hP 0 rfl rfl 1 (by decide) (hts (.fieldLink RX4 19 "RestRegisters" "now" "LRestRegisters$Bank;") (by decide +kernel)) (fun _ h9 => h9) rfl dX4_slip_37 ?_
  refine lv_iload_n hx hb dX4_slip_40 rfl (lv_at hl 1 rfl) ?_
  refine lv_iload_n hx hb dX4_slip_41 rfl (lv_at hl 2 rfl) ?_
  refine rr_callR (va_runV (As := [.int (nI r), .int (nI k)]) (rest := []) ⟨hx, hb, hml, hown, hts⟩ (c_X0_shown l dC dI cI cJ cS b0 h3 hrs hpr hpd dr kn nx Rr r k (by first | assumption | omega) (by first | assumption | omega)) (cwV 2 hts gX4_slip_X0_shown rfl rfl rfl (by decide +kernel) ⟨Nat.le_of_ble_eq_true rfl, Nat.le_of_ble_eq_true rfl⟩) (rr_preV hKK (hP.sub [1, 6] rfl) rfl rfl) rfl rfl hl.1 rfl (lv_room (Nat.le_of_ble_eq_true rfl)) dX4_slip_42 ⟨Nat.zero_le _, Nat.zero_le _⟩) ?_
  refine lv_istore (lv' := [(4, .int (nI (Rr (r * 6 + k)))), (0, .ref x0), (1, .int (nI r)), (2, .int (nI k)), (3, .int (nI x))]) hx hb dX4_slip_45 hl (by decide) rfl (fun ls hl => ?_)
  refine lv_iload hx hb dX4_slip_47 (lv_at hl 0 rfl) ?_
  refine lv_iload_n hx hb dX4_slip_49 rfl (lv_at hl 4 rfl) ?_
  refine rn_icmp_ne (tgt := 56) hx hb dX4_slip_50 (by decide) (by omega) (by omega) (fun c50 => ?_) (fun c50 => ?_)
  · skip
    exact absurd hne c50
  refine lv_bipush (v := (-2)) hx hb dX4_slip_53 (by decide) ?_
  exact rr_iret hx hb hr hlocks dX4_slip_55 (rfl)
set_option maxHeartbeats 4000000 in
set_option maxRecDepth 100000 in
theorem c_X4_slip_b1 (l : Launch) (dC : Nat → ClassId) (dI : Nat → Nat → Nat) (cI cJ cS : ClassId) (x0 t0 k0 sa : Nat) (im : Bool) (b0 h3 hk hw hs hrs hpr hpd : Nat) (n h rg sp dr kn nx : Nat) (kf wf sf : Nat → Int32) (Kd Wd Sh Rr Pr Pd : Nat → Nat) (x y z : Int32) (ok : wOk n Kd Wd) (fw : isA n wf Wd) (hbad : (inb x 4 && inb y n) = false) : Met l yX4_slip wsX4_slip ({ frames := 2, cells := 0, slots := 0, locals := 80 }) (va_Pc [.ref x0, .int x, .int y, .int z] (rB (dC, dI) vwCl [(x0, .inr (4, [.ref t0, .ref b0, .ref k0, .int (bi im), .ref sa])), (b0, .inr (0, [.ref h3, .ref hrs, .int (nI dr), .int (nI kn), .int (nI nx), .ref hpr, .ref hpd])), (h3, .inr (3, [.int (nI n), .int (nI h), .int (nI rg), .int (nI sp), .ref hk, .ref hw, .ref hs])), (hk, .inl (cI, 6, .inl kf)), (hw, .inl (cI, 6, .inl wf)), (hs, .inl (cI, 6, .inl sf)), (hrs, .inl (cI, 24, .inl (nA Rr))), (hpr, .inl (cI, 192, .inl (nA Pr))), (hpd, .inl (cI, 8, .inl (nA Pd)))] (tyz cI cJ cS))) (QcRead (-1)) 0 0 (fun _ => False) := by
  refine Met.ofW (cc := cX4_slip) (maxL := 5) (ret := (some .int)) (by decide) rfl ?_
  intro p e s m args below meth c s₁ B hml hv
  obtain ⟨rfl, hP, hKK⟩ := hv
  have hK := hKK.1
  have hx := B.exec
  have hb := B.bytes
  have hr := B.returns
  have hts := atoms_spec (ws := wsX4_slip) B.pre
  have hown : s.vm.findClass RX4 = some m.cls := findClass_of_methodNamed B.named
  have hlocks := B.notSynchronized
  have hiX0 : ∀ w ∈ wsX00, w ∈ wsX4_slip := by decide +kernel
  have hiX3 : ∀ w ∈ wsX30, w ∈ wsX4_slip := by decide +kernel
  have hiX4 : ∀ w ∈ wsX40, w ∈ wsX4_slip := by decide +kernel
  have hl := lv_entry ([.ref x0, .int x, .int y, .int z]) (n := 5) (Nat.le_of_ble_eq_true rfl)
  rw [lg_entry_eq]
  generalize (lg_sl ([.ref x0, .int x, .int y, .int z]) ++ List.replicate (5 - (lg_sl ([.ref x0, .int x, .int y, .int z])).length) Slot.unset).toArray = ls at hl ⊢
  have hl : lv_has ls 5 [(0, .ref x0), (1, .int x), (2, .int y), (3, .int z)] := hl
  have hn6 := ok.1
  refine lv_iload_n hx hb dX4_slip_0 rfl (lv_at hl 1 rfl) ?_
  refine rr_callR (va_runS (As := [.int x]) (rest := []) ⟨hx, hb, hml, hown, hts⟩ (c_X4_isRegister l x ) (va_cwS 1 hts gX4_slip_X4_isRegister rfl rfl rfl (by decide +kernel) ⟨Nat.le_of_ble_eq_true rfl, Nat.le_of_ble_eq_true rfl⟩) rr_preT rfl rfl hl.1 rfl (lv_room (Nat.le_of_ble_eq_true rfl)) dX4_slip_1 ⟨Nat.zero_le _, Nat.zero_le _⟩) ?_
  refine rb_if_eq (tgt := 34) hx hb dX4_slip_4 (by decide) (fun c4 => ?_) (fun c4 => ?_)
  · skip
    refine lv_iconst (v := (-1)) hx hb dX4_slip_34 (by decide) ?_
    exact rr_iret hx hb hr hlocks dX4_slip_35 (rfl)
  refine lv_aload_n hx hb dX4_slip_7 rfl (lv_at hl 0 rfl) ?_
  refine lv_iload_n hx hb dX4_slip_8 rfl (lv_at hl 2 rfl) ?_
  refine rr_callR (va_runV (As := [.int y]) (rest := []) ⟨hx, hb, hml, hown, hts⟩ (c_X4_isWheel l dC dI cI cJ cS x0 t0 k0 sa im b0 h3 hk hw hs hrs hpr hpd n h rg sp dr kn nx kf wf sf Kd Wd Sh Rr Pr Pd y (by first | assumption | omega)) (cwV 1 hts gX4_slip_X4_isWheel rfl rfl rfl (by decide +kernel) ⟨Nat.le_of_ble_eq_true rfl, Nat.le_of_ble_eq_true rfl⟩) (rr_preV hKK hP rfl rfl) rfl rfl hl.1 rfl (lv_room (Nat.le_of_ble_eq_true rfl)) dX4_slip_9 ⟨Nat.zero_le _, Nat.zero_le _⟩) ?_
  refine rb_if_eq (tgt := 34) hx hb dX4_slip_12 (by decide) (fun c12 => ?_) (fun c12 => ?_)
  · skip
    refine lv_iconst (v := (-1)) hx hb dX4_slip_34 (by decide) ?_
    exact rr_iret hx hb hr hlocks dX4_slip_35 (rfl)
  exact absurd hbad (by rw [c4, c12]; decide)
set_option maxHeartbeats 4000000 in
set_option maxRecDepth 100000 in
theorem c_X4_slip_b2 (l : Launch) (dC : Nat → ClassId) (dI : Nat → Nat → Nat) (cI cJ cS : ClassId) (x0 t0 k0 sa : Nat) (im : Bool) (b0 h3 hk hw hs hrs hpr hpd : Nat) (n h rg sp dr kn nx : Nat) (kf wf sf : Nat → Int32) (Kd Wd Sh Rr Pr Pd : Nat → Nat) (r k : Nat) (z : Int32) (ok : wOk n Kd Wd) (fw : isA n wf Wd) (hr4 : r < 4) (hk2 : k < n) (hbad : (inb z (Wd k)) = false) : Met l yX4_slip wsX4_slip ({ frames := 2, cells := 0, slots := 0, locals := 80 }) (va_Pc [.ref x0, .int (nI r), .int (nI k), .int z] (rB (dC, dI) vwCl [(x0, .inr (4, [.ref t0, .ref b0, .ref k0, .int (bi im), .ref sa])), (b0, .inr (0, [.ref h3, .ref hrs, .int (nI dr), .int (nI kn), .int (nI nx), .ref hpr, .ref hpd])), (h3, .inr (3, [.int (nI n), .int (nI h), .int (nI rg), .int (nI sp), .ref hk, .ref hw, .ref hs])), (hk, .inl (cI, 6, .inl kf)), (hw, .inl (cI, 6, .inl wf)), (hs, .inl (cI, 6, .inl sf)), (hrs, .inl (cI, 24, .inl (nA Rr))), (hpr, .inl (cI, 192, .inl (nA Pr))), (hpd, .inl (cI, 8, .inl (nA Pd)))] (tyz cI cJ cS))) (QcRead (-1)) 0 0 (fun _ => False) := by
  refine Met.ofW (cc := cX4_slip) (maxL := 5) (ret := (some .int)) (by decide) rfl ?_
  intro p e s m args below meth c s₁ B hml hv
  obtain ⟨rfl, hP, hKK⟩ := hv
  have hK := hKK.1
  have hx := B.exec
  have hb := B.bytes
  have hr := B.returns
  have hts := atoms_spec (ws := wsX4_slip) B.pre
  have hown : s.vm.findClass RX4 = some m.cls := findClass_of_methodNamed B.named
  have hlocks := B.notSynchronized
  have hiX0 : ∀ w ∈ wsX00, w ∈ wsX4_slip := by decide +kernel
  have hiX3 : ∀ w ∈ wsX30, w ∈ wsX4_slip := by decide +kernel
  have hiX4 : ∀ w ∈ wsX40, w ∈ wsX4_slip := by decide +kernel
  have hl := lv_entry ([.ref x0, .int (nI r), .int (nI k), .int z]) (n := 5) (Nat.le_of_ble_eq_true rfl)
  rw [lg_entry_eq]
  generalize (lg_sl ([.ref x0, .int (nI r), .int (nI k), .int z]) ++ List.replicate (5 - (lg_sl ([.ref x0, .int (nI r), .int (nI k), .int z])).length) Slot.unset).toArray = ls at hl ⊢
  have hl : lv_has ls 5 [(0, .ref x0), (1, .int (nI r)), (2, .int (nI k)), (3, .int z)] := hl
  have hn6 := ok.1
  refine lv_iload_n hx hb dX4_slip_0 rfl (lv_at hl 1 rfl) ?_
  refine rr_callR (va_runS (As := [.int (nI r)]) (rest := []) ⟨hx, hb, hml, hown, hts⟩ (c_X4_isRegister l (nI r) ) (va_cwS 1 hts gX4_slip_X4_isRegister rfl rfl rfl (by decide +kernel) ⟨Nat.le_of_ble_eq_true rfl, Nat.le_of_ble_eq_true rfl⟩) rr_preT rfl rfl hl.1 rfl (lv_room (Nat.le_of_ble_eq_true rfl)) dX4_slip_1 ⟨Nat.zero_le _, Nat.zero_le _⟩) ?_
  refine rr_top (y := bi true) (congrArg bi (inb_lt (by omega) (by omega))) ?_
  refine rb_if_eq (tgt := 34) hx hb dX4_slip_4 (by decide) (fun c4 => ?_) (fun c4 => ?_)
  · exact absurd c4 (by decide)
  refine lv_aload_n hx hb dX4_slip_7 rfl (lv_at hl 0 rfl) ?_
  refine lv_iload_n hx hb dX4_slip_8 rfl (lv_at hl 2 rfl) ?_
  refine rr_callR (va_runV (As := [.int (nI k)]) (rest := []) ⟨hx, hb, hml, hown, hts⟩ (c_X4_isWheel l dC dI cI cJ cS x0 t0 k0 sa im b0 h3 hk hw hs hrs hpr hpd n h rg sp dr kn nx kf wf sf Kd Wd Sh Rr Pr Pd (nI k) (by first | assumption | omega)) (cwV 1 hts gX4_slip_X4_isWheel rfl rfl rfl (by decide +kernel) ⟨Nat.le_of_ble_eq_true rfl, Nat.le_of_ble_eq_true rfl⟩) (rr_preV hKK hP rfl rfl) rfl rfl hl.1 rfl (lv_room (Nat.le_of_ble_eq_true rfl)) dX4_slip_9 ⟨Nat.zero_le _, Nat.zero_le _⟩) ?_
  refine rr_top (y := bi true) (congrArg bi (inb_lt (by omega) (by omega))) ?_
  refine rb_if_eq (tgt := 34) hx hb dX4_slip_12 (by decide) (fun c12 => ?_) (fun c12 => ?_)
  · exact absurd c12 (by decide)
  refine lv_iload_n hx hb dX4_slip_15 rfl (lv_at hl 3 rfl) ?_
  refine lv_aload_n hx hb dX4_slip_16 rfl (lv_at hl 0 rfl) ?_
  refine va_get (D := (dC, dI)) (ci := 4) (v := .ref b0) (C := RX4) (T := TX4) (N := 5) hx hb hts hiX4 hown hK hP 0 rfl rfl 1 (by decide) (hts (.fieldLink RX4 19 "RestRegisters" "now" "LRestRegisters$Bank;") (by decide +kernel)) (fun _ h9 => h9) rfl dX4_slip_17 ?_
  refine va_get (D := (dC, dI)) (ci := 0) (v := .ref h3) (C := RX0) (T := TX0) (N := 7) hx hb hts hiX0 hown hK hP 1 rfl rfl 0 (by decide) (hts (.fieldLink RX4 61 "RestRegisters$Bank" "wheels" "LRestRegisters$Wheels;") (by decide +kernel)) (fun _ h9 => h9) rfl dX4_slip_20 ?_
  refine va_get (D := (dC, dI)) (ci := 3) (v := .ref hw) (C := RX3) (T := TX3) (N := 7) hx hb hts hiX3 hown hK hP 2 rfl rfl 5 (by decide) (hts (.fieldLink RX4 70 "RestRegisters$Wheels" "widths" "[I") (by decide +kernel)) (fun _ h9 => h9) rfl dX4_slip_23 ?_
  refine lv_iload_n hx hb dX4_slip_26 rfl (lv_at hl 2 rfl) ?_
  refine rn_iald hx hb hK hP 4 0 rfl rfl (i := k) (by omega) (by decide) (v := (nI (Wd k))) (fw k (by omega)) dX4_slip_27 ?_
  have hv27 := ok.2.2.1 k (by omega)
  refine rr_callR (va_runS (As := [.int z, .int (nI (Wd k))]) (rest := []) ⟨hx, hb, hml, hown, hts⟩ (c_X4_isBelow l z (Wd k) (by first | assumption | omega)) (va_cwS 2 hts gX4_slip_X4_isBelow rfl rfl rfl (by decide +kernel) ⟨Nat.le_of_ble_eq_true rfl, Nat.le_of_ble_eq_true rfl⟩) rr_preT rfl rfl hl.1 rfl (lv_room (Nat.le_of_ble_eq_true rfl)) dX4_slip_28 ⟨Nat.zero_le _, Nat.zero_le _⟩) ?_
  refine rb_if_ne (tgt := 36) hx hb dX4_slip_31 (by decide) (fun c31 => ?_) (fun c31 => ?_)
  · skip
    exact absurd hbad (by rw [c31]; decide)
  refine lv_iconst (v := (-1)) hx hb dX4_slip_34 (by decide) ?_
  exact rr_iret hx hb hr hlocks dX4_slip_35 (rfl)
set_option maxHeartbeats 4000000 in
set_option maxRecDepth 100000 in
theorem c_X4_drift_g (l : Launch) (dC : Nat → ClassId) (dI : Nat → Nat → Nat) (cI cJ cS : ClassId) (sz : Nat) (x0 t0 k0 sa : Nat) (im : Bool) (b0 h3 hk hw hs hrs hpr hpd : Nat) (n h rg sp dr kn nx : Nat) (kf wf sf : Nat → Int32) (Kd Wd Sh Rr Pr Pd : Nat → Nat) (t : Nat) (ok : wOk n Kd Wd) (fk : isA n kf Kd) (fw : isA n wf Wd) (fs : isA n sf Sh) (hS : ∀ j, j < n → Sh j < sp) (hsp : sp ≤ 47045881) (hsp0 : 0 < sp) (hR : rOk n Wd Rr) (hrg : rg < 2 ^ 31) (hnx : nx < 8) (hkn : kn ≤ 8) (ht1 : 1 ≤ t) (ht2 : t ≤ 40) : Met l yX4_drift wsX4_drift ({ frames := 6, cells := 0, slots := 0, locals := 137 }) (va_Pc [.ref x0, .int (nI t)] (rW (dC, dI) vwCl [(x0, .inr (4, [.ref t0, .ref b0, .ref k0, .int (bi im), .ref sa])), (b0, .inr (0, [.ref h3, .ref hrs, .int (nI dr), .int (nI kn), .int (nI nx), .ref hpr, .ref hpd])), (h3, .inr (3, [.int (nI n), .int (nI h), .int (nI rg), .int (nI sp), .ref hk, .ref hw, .ref hs])), (hk, .inl (cI, 6, .inl kf)), (hw, .inl (cI, 6, .inl wf)), (hs, .inl (cI, 6, .inl sf)), (hrs, .inl (cI, 24, .inl (nA Rr))), (hpr, .inl (cI, 192, .inl (nA Pr))), (hpd, .inl (cI, 8, .inl (nA Pd)))] (tyz cI cJ cS) sz)) (qI (nI (orS (fun r => decide (vR Sh (dIt n Kd Wd (dr, kn, nx, Rr, Pr, Pd) t).2.2.2.1 sp n r < rg)) 4)) (dC, dI) vwCl [(x0, .inr (4, [.ref t0, .ref b0, .ref k0, .int (bi im), .ref sa])), (b0, .inr (0, [.ref h3, .ref hrs, .int (nI ((dIt n Kd Wd (dr, kn, nx, Rr, Pr, Pd) t).1)), .int (nI ((dIt n Kd Wd (dr, kn, nx, Rr, Pr, Pd) t).2.1)), .int (nI ((dIt n Kd Wd (dr, kn, nx, Rr, Pr, Pd) t).2.2.1)), .ref hpr, .ref hpd])), (h3, .inr (3, [.int (nI n), .int (nI h), .int (nI rg), .int (nI sp), .ref hk, .ref hw, .ref hs])), (hk, .inl (cI, 6, .inl kf)), (hw, .inl (cI, 6, .inl wf)), (hs, .inl (cI, 6, .inl sf)), (hrs, .inl (cI, 24, .inl (nA ((dIt n Kd Wd (dr, kn, nx, Rr, Pr, Pd) t).2.2.2.1)))), (hpr, .inl (cI, 192, .inl (nA ((dIt n Kd Wd (dr, kn, nx, Rr, Pr, Pd) t).2.2.2.2.1)))), (hpd, .inl (cI, 8, .inl (nA ((dIt n Kd Wd (dr, kn, nx, Rr, Pr, Pd) t).2.2.2.2.2))))] (va_A [(x0, .inr (4, [.ref t0, .ref b0, .ref k0, .int (bi im), .ref sa])), (b0, .inr (0, [.ref h3, .ref hrs, .int (nI dr), .int (nI kn), .int (nI nx), .ref hpr, .ref hpd])), (h3, .inr (3, [.int (nI n), .int (nI h), .int (nI rg), .int (nI sp), .ref hk, .ref hw, .ref hs])), (hk, .inl (cI, 6, .inl kf)), (hw, .inl (cI, 6, .inl wf)), (hs, .inl (cI, 6, .inl sf)), (hrs, .inl (cI, 24, .inl (nA Rr))), (hpr, .inl (cI, 192, .inl (nA Pr))), (hpd, .inl (cI, 8, .inl (nA Pd)))] sz)) 0 0 (va_A [(x0, .inr (4, [.ref t0, .ref b0, .ref k0, .int (bi im), .ref sa])), (b0, .inr (0, [.ref h3, .ref hrs, .int (nI dr), .int (nI kn), .int (nI nx), .ref hpr, .ref hpd])), (h3, .inr (3, [.int (nI n), .int (nI h), .int (nI rg), .int (nI sp), .ref hk, .ref hw, .ref hs])), (hk, .inl (cI, 6, .inl kf)), (hw, .inl (cI, 6, .inl wf)), (hs, .inl (cI, 6, .inl sf)), (hrs, .inl (cI, 24, .inl (nA Rr))), (hpr, .inl (cI, 192, .inl (nA Pr))), (hpd, .inl (cI, 8, .inl (nA Pd)))] sz) := by
  refine Met.ofW (cc := cX4_drift) (maxL := 3) (ret := (some .int)) (by decide) rfl ?_
  intro p e s m args below meth c s₁ B hml hv
  obtain ⟨rfl, hsz, hP, hKK, hD0⟩ := hv
  have hK := hKK.1
  have hx := B.exec
  have hb := B.bytes
  have hr := B.returns
  have hts := atoms_spec (ws := wsX4_drift) B.pre
  have hown : s.vm.findClass RX4 = some m.cls := findClass_of_methodNamed B.named
  have hlocks := B.notSynchronized
  subst hsz
  have hD := hD0.self (sz := s.heap.size)
  generalize hAe : va_A [(x0, .inr (4, [.ref t0, .ref b0, .ref k0, .int (bi im), .ref sa])), (b0, .inr (0, [.ref h3, .ref hrs, .int (nI dr), .int (nI kn), .int (nI nx), .ref hpr, .ref hpd])), (h3, .inr (3, [.int (nI n), .int (nI h), .int (nI rg), .int (nI sp), .ref hk, .ref hw, .ref hs])), (hk, .inl (cI, 6, .inl kf)), (hw, .inl (cI, 6, .inl wf)), (hs, .inl (cI, 6, .inl sf)), (hrs, .inl (cI, 24, .inl (nA Rr))), (hpr, .inl (cI, 192, .inl (nA Pr))), (hpd, .inl (cI, 8, .inl (nA Pd)))] s.heap.size = A at hD ⊢
  have hA : ∀ q : Nat, s.heap.size ≤ q → A q := fun q h => by rw [← hAe]; exact Or.inr h
  have hS : va_S A s.heap s.heap [] := va_S.rf
  have hP : va_P (dC, dI) vwCl [(x0, .inr (4, [.ref t0, .ref b0, .ref k0, .int (bi im), .ref sa])), (b0, .inr (0, [.ref h3, .ref hrs, .int (nI dr), .int (nI kn), .int (nI nx), .ref hpr, .ref hpd])), (h3, .inr (3, [.int (nI n), .int (nI h), .int (nI rg), .int (nI sp), .ref hk, .ref hw, .ref hs])), (hk, .inl (cI, 6, .inl kf)), (hw, .inl (cI, 6, .inl wf)), (hs, .inl (cI, 6, .inl sf)), (hrs, .inl (cI, 24, .inl (nA Rr))), (hpr, .inl (cI, 192, .inl (nA Pr))), (hpd, .inl (cI, 8, .inl (nA Pd)))] s.heap := hP
  have hiX4 : ∀ w ∈ wsX40, w ∈ wsX4_drift := by decide +kernel
  have hl := lv_entry ([.ref x0, .int (nI t)]) (n := 3) (Nat.le_of_ble_eq_true rfl)
  rw [lg_entry_eq]
  generalize (lg_sl ([.ref x0, .int (nI t)]) ++ List.replicate (3 - (lg_sl ([.ref x0, .int (nI t)])).length) Slot.unset).toArray = ls at hl ⊢
  have hl : lv_has ls 3 [(0, .ref x0), (1, .int (nI t))] := hl
  have hn6 := ok.1
  refine lv_iload_n hx hb dX4_drift_0 rfl (lv_at hl 1 rfl) ?_
  refine lv_iconst (v := (nI 1)) hx hb dX4_drift_1 (by decide) ?_
  refine rn_icmp_lt (tgt := 11) hx hb dX4_drift_2 (by decide) (by omega) (by omega) (fun c2 => ?_) (fun c2 => ?_)
  · skip
    first | exact absurd c2 (by omega) | exact absurd c8 (by omega)
  refine lv_iload_n hx hb dX4_drift_5 rfl (lv_at hl 1 rfl) ?_
  refine lv_bipush (v := (nI 40)) hx hb dX4_drift_6 (by decide) ?_
  refine rn_icmp_le (tgt := 13) hx hb dX4_drift_8 (by decide) (by omega) (by omega) (fun c8 => ?_) (fun c8 => ?_)
  · skip
    refine lv_iconst (v := (nI 0)) hx hb dX4_drift_13 (by decide) ?_
    refine lv_istore_n (lv' := [(2, .int (nI 0)), (0, .ref x0), (1, .int (nI t))]) hx hb dX4_drift_14 rfl hl (by decide) rfl (fun ls hl => ?_)
    refine rlW1 (A1 := Nat) (fun H locs ls => W p l e _ s m _ below meth c H locs 0 0 _ (F0 m 15 ls [])) (fun i H locs ls => i ≤ t ∧ va_P (dC, dI) vwCl [(x0, .inr (4, [.ref t0, .ref b0, .ref k0, .int (bi im), .ref sa])), (b0, .inr (0, [.ref h3, .ref hrs, .int (nI ((dIt n Kd Wd (dr, kn, nx, Rr, Pr, Pd) i).1)), .int (nI ((dIt n Kd Wd (dr, kn, nx, Rr, Pr, Pd) i).2.1)), .int (nI ((dIt n Kd Wd (dr, kn, nx, Rr, Pr, Pd) i).2.2.1)), .ref hpr, .ref hpd])), (h3, .inr (3, [.int (nI n), .int (nI h), .int (nI rg), .int (nI sp), .ref hk, .ref hw, .ref hs])), (hk, .inl (cI, 6, .inl kf)), (hw, .inl (cI, 6, .inl wf)), (hs, .inl (cI, 6, .inl sf)), (hrs, .inl (cI, 24, .inl (nA (dIt n Kd Wd (dr, kn, nx, Rr, Pr, Pd) i).2.2.2.1))), (hpr, .inl (cI, 192, .inl (nA (dIt n Kd Wd (dr, kn, nx, Rr, Pr, Pd) i).2.2.2.2.1))), (hpd, .inl (cI, 8, .inl (nA (dIt n Kd Wd (dr, kn, nx, Rr, Pr, Pd) i).2.2.2.2.2)))] H ∧ va_D A [(x0, .inr (4, [.ref t0, .ref b0, .ref k0, .int (bi im), .ref sa])), (b0, .inr (0, [.ref h3, .ref hrs, .int (nI ((dIt n Kd Wd (dr, kn, nx, Rr, Pr, Pd) i).1)), .int (nI ((dIt n Kd Wd (dr, kn, nx, Rr, Pr, Pd) i).2.1)), .int (nI ((dIt n Kd Wd (dr, kn, nx, Rr, Pr, Pd) i).2.2.1)), .ref hpr, .ref hpd])), (h3, .inr (3, [.int (nI n), .int (nI h), .int (nI rg), .int (nI sp), .ref hk, .ref hw, .ref hs])), (hk, .inl (cI, 6, .inl kf)), (hw, .inl (cI, 6, .inl wf)), (hs, .inl (cI, 6, .inl sf)), (hrs, .inl (cI, 24, .inl (nA (dIt n Kd Wd (dr, kn, nx, Rr, Pr, Pd) i).2.2.2.1))), (hpr, .inl (cI, 192, .inl (nA (dIt n Kd Wd (dr, kn, nx, Rr, Pr, Pd) i).2.2.2.2.1))), (hpd, .inl (cI, 8, .inl (nA (dIt n Kd Wd (dr, kn, nx, Rr, Pr, Pd) i).2.2.2.2.2)))] ∧ va_S A s.heap H locs ∧ lv_has ls 3 [(2, .int (nI i)), (0, .ref x0), (1, .int (nI t))]) (fun i => t - i) ?_ 0 _ _ ls ⟨by omega, hP, hD, hS, lv_sub hl [0, 1, 2] rfl⟩
    rintro i H locs ls ⟨hi, hP, hD, hS, hl⟩ ih15
    refine lv_iload_n hx hb dX4_drift_15 rfl (lv_at hl 0 rfl) ?_
    refine lv_iload_n hx hb dX4_drift_16 rfl (lv_at hl 2 rfl) ?_
    refine rn_icmp_ge (tgt := 40) hx hb dX4_drift_17 (by decide) (by omega) (by omega) (fun c17 => ?_) (fun c17 => ?_)
    · skip
      have ei : i = t := Nat.le_antisymm hi c17
      subst ei
      have hdo := dIt_ok ok (T := (dr, kn, nx, Rr, Pr, Pd)) hR hkn hnx i
      refine lv_aload_n hx hb dX4_drift_40 rfl (lv_at hl 1 rfl) ?_
      refine va_get (D := (dC, dI)) (ci := 4) (v := .ref b0) (C := RX4) (T := TX4) (N := 5) hx hb hts hiX4 hown hK hP 0 rfl rfl 1 (by decide) (hts (.fieldLink RX4 19 "RestRegisters" "now" "LRestRegisters$Bank;") (by decide +kernel)) (fun _ h9 => h9) rfl dX4_drift_41 ?_
      refine rr_callR (va_runV (As := []) (rest := []) ⟨hx, hb, hml, hown, hts⟩ (c_X0_legalOnes l dC dI cI cJ cS b0 h3 hk hw hs hrs hpr hpd n h rg sp ((dIt n Kd Wd (dr, kn, nx, Rr, Pr, Pd) i).1) ((dIt n Kd Wd (dr, kn, nx, Rr, Pr, Pd) i).2.1) ((dIt n Kd Wd (dr, kn, nx, Rr, Pr, Pd) i).2.2.1) kf wf sf Kd Wd Sh ((dIt n Kd Wd (dr, kn, nx, Rr, Pr, Pd) i).2.2.2.1) ((dIt n Kd Wd (dr, kn, nx, Rr, Pr, Pd) i).2.2.2.2.1) ((dIt n Kd Wd (dr, kn, nx, Rr, Pr, Pd) i).2.2.2.2.2) (by first | assumption | omega) (by first | assumption | omega) (by first | assumption | omega) (by first | assumption | omega) (by first | assumption | omega) (hdo.1) (by first | assumption | omega)) (cwV 0 hts gX4_drift_X0_legalOnes rfl rfl rfl (by decide +kernel) ⟨Nat.le_of_ble_eq_true rfl, Nat.le_of_ble_eq_true rfl⟩) (rr_preV hKK (hP.sub [1, 2, 3, 4, 5, 6, 7, 8] rfl) rfl rfl) rfl rfl hl.1 rfl (lv_room (Nat.le_of_ble_eq_true rfl)) dX4_drift_44 ⟨Nat.zero_le _, Nat.zero_le _⟩) ?_
      exact rr_iretW hx hb hr hlocks dX4_drift_47 hP hD hS (rfl)
    have hdo := dIt_ok ok (T := (dr, kn, nx, Rr, Pr, Pd)) hR hkn hnx i
    refine lv_aload_n hx hb dX4_drift_20 rfl (lv_at hl 1 rfl) ?_
    refine va_get (D := (dC, dI)) (ci := 4) (v := .ref b0) (C := RX4) (T := TX4) (N := 5) hx hb hts hiX4 hown hK hP 0 rfl rfl 1 (by decide) (hts (.fieldLink RX4 19 "RestRegisters" "now" "LRestRegisters$Bank;") (by decide +kernel)) (fun _ h9 => h9) rfl dX4_drift_21 ?_
    refine rw_callv (va_runV (As := []) (rest := []) ⟨hx, hb, hml, hown, hts⟩ (c_X0_remember l dC dI cI cJ cS _ b0 h3 hk hw hs hrs hpr hpd n h rg sp ((dIt n Kd Wd (dr, kn, nx, Rr, Pr, Pd) i).1) ((dIt n Kd Wd (dr, kn, nx, Rr, Pr, Pd) i).2.1) ((dIt n Kd Wd (dr, kn, nx, Rr, Pr, Pd) i).2.2.1) kf wf sf Kd Wd Sh ((dIt n Kd Wd (dr, kn, nx, Rr, Pr, Pd) i).2.2.2.1) ((dIt n Kd Wd (dr, kn, nx, Rr, Pr, Pd) i).2.2.2.2.1) ((dIt n Kd Wd (dr, kn, nx, Rr, Pr, Pd) i).2.2.2.2.2) (hdo.2.2) (hdo.2.1)) (cwV 0 hts gX4_drift_X0_remember rfl rfl rfl (by decide +kernel) ⟨Nat.le_of_ble_eq_true rfl, Nat.le_of_ble_eq_true rfl⟩) (rw_preV hKK (hP.sub [1, 2, 3, 4, 5, 6, 7, 8] rfl) (hD.sub [1, 2, 3, 4, 5, 6, 7, 8] (by decide) rfl) rfl rfl) rfl rfl hl.1 rfl (lv_room (Nat.le_of_ble_eq_true rfl)) dX4_drift_24 ⟨Nat.zero_le _, Nat.zero_le _⟩) (wr := [(x0, .inr (4, [.ref t0, .ref b0, .ref k0, .int (bi im), .ref sa]))]) hP hD hS hA [1, 2, 3, 4, 5, 6, 7, 8] [0] rfl rfl (by decide) (by decide) (fun H locs hP hD hS => ?_)
    have hP : va_P (dC, dI) vwCl [(x0, .inr (4, [.ref t0, .ref b0, .ref k0, .int (bi im), .ref sa])), (b0, .inr (0, [.ref h3, .ref hrs, .int (nI ((dIt n Kd Wd (dr, kn, nx, Rr, Pr, Pd) i).1)), .int (nI (min (((dIt n Kd Wd (dr, kn, nx, Rr, Pr, Pd) i).2.1) + 1) 8)), .int (nI ((((dIt n Kd Wd (dr, kn, nx, Rr, Pr, Pd) i).2.2.1) + 1) % 8)), .ref hpr, .ref hpd])), (h3, .inr (3, [.int (nI n), .int (nI h), .int (nI rg), .int (nI sp), .ref hk, .ref hw, .ref hs])), (hk, .inl (cI, 6, .inl kf)), (hw, .inl (cI, 6, .inl wf)), (hs, .inl (cI, 6, .inl sf)), (hrs, .inl (cI, 24, .inl (nA ((dIt n Kd Wd (dr, kn, nx, Rr, Pr, Pd) i).2.2.2.1)))), (hpr, .inl (cI, 192, .inl (nA (cpN ((dIt n Kd Wd (dr, kn, nx, Rr, Pr, Pd) i).2.2.2.1) ((dIt n Kd Wd (dr, kn, nx, Rr, Pr, Pd) i).2.2.2.2.1) 0 (((dIt n Kd Wd (dr, kn, nx, Rr, Pr, Pd) i).2.2.1) * 24) 24)))), (hpd, .inl (cI, 8, .inl (nA (uN ((dIt n Kd Wd (dr, kn, nx, Rr, Pr, Pd) i).2.2.2.2.2) ((dIt n Kd Wd (dr, kn, nx, Rr, Pr, Pd) i).2.2.1) ((dIt n Kd Wd (dr, kn, nx, Rr, Pr, Pd) i).1)))))] H := hP.sub [0, 1, 2, 3, 4, 5, 6, 7, 8] rfl
    have hD : va_D A [(x0, .inr (4, [.ref t0, .ref b0, .ref k0, .int (bi im), .ref sa])), (b0, .inr (0, [.ref h3, .ref hrs, .int (nI ((dIt n Kd Wd (dr, kn, nx, Rr, Pr, Pd) i).1)), .int (nI (min (((dIt n Kd Wd (dr, kn, nx, Rr, Pr, Pd) i).2.1) + 1) 8)), .int (nI ((((dIt n Kd Wd (dr, kn, nx, Rr, Pr, Pd) i).2.2.1) + 1) % 8)), .ref hpr, .ref hpd])), (h3, .inr (3, [.int (nI n), .int (nI h), .int (nI rg), .int (nI sp), .ref hk, .ref hw, .ref hs])), (hk, .inl (cI, 6, .inl kf)), (hw, .inl (cI, 6, .inl wf)), (hs, .inl (cI, 6, .inl sf)), (hrs, .inl (cI, 24, .inl (nA ((dIt n Kd Wd (dr, kn, nx, Rr, Pr, Pd) i).2.2.2.1)))), (hpr, .inl (cI, 192, .inl (nA (cpN ((dIt n Kd Wd (dr, kn, nx, Rr, Pr, Pd) i).2.2.2.1) ((dIt n Kd Wd (dr, kn, nx, Rr, Pr, Pd) i).2.2.2.2.1) 0 (((dIt n Kd Wd (dr, kn, nx, Rr, Pr, Pd) i).2.2.1) * 24) 24)))), (hpd, .inl (cI, 8, .inl (nA (uN ((dIt n Kd Wd (dr, kn, nx, Rr, Pr, Pd) i).2.2.2.2.2) ((dIt n Kd Wd (dr, kn, nx, Rr, Pr, Pd) i).2.2.1) ((dIt n Kd Wd (dr, kn, nx, Rr, Pr, Pd) i).1)))))] := hD.sub [0, 1, 2, 3, 4, 5, 6, 7, 8] (by decide) rfl
    refine lv_aload_n hx hb dX4_drift_27 rfl (lv_at hl 1 rfl) ?_
    refine va_get (D := (dC, dI)) (ci := 4) (v := .ref b0) (C := RX4) (T := TX4) (N := 5) hx hb hts hiX4 hown hK hP 0 rfl rfl 1 (by decide) (hts (.fieldLink RX4 19 "RestRegisters" "now" "LRestRegisters$Bank;") (by decide +kernel)) (fun _ h9 => h9) rfl dX4_drift_28 ?_
    refine rw_callv (va_runV (As := []) (rest := []) ⟨hx, hb, hml, hown, hts⟩ (c_X0_driftOnce l dC dI cI cJ cS _ b0 h3 hk hw hs hrs hpr hpd n h rg sp ((dIt n Kd Wd (dr, kn, nx, Rr, Pr, Pd) i).1) (min (((dIt n Kd Wd (dr, kn, nx, Rr, Pr, Pd) i).2.1) + 1) 8) ((((dIt n Kd Wd (dr, kn, nx, Rr, Pr, Pd) i).2.2.1) + 1) % 8) kf wf sf Kd Wd Sh ((dIt n Kd Wd (dr, kn, nx, Rr, Pr, Pd) i).2.2.2.1) (cpN ((dIt n Kd Wd (dr, kn, nx, Rr, Pr, Pd) i).2.2.2.1) ((dIt n Kd Wd (dr, kn, nx, Rr, Pr, Pd) i).2.2.2.2.1) 0 (((dIt n Kd Wd (dr, kn, nx, Rr, Pr, Pd) i).2.2.1) * 24) 24) (uN ((dIt n Kd Wd (dr, kn, nx, Rr, Pr, Pd) i).2.2.2.2.2) ((dIt n Kd Wd (dr, kn, nx, Rr, Pr, Pd) i).2.2.1) ((dIt n Kd Wd (dr, kn, nx, Rr, Pr, Pd) i).1)) (by first | assumption | omega) (by first | assumption | omega) (by first | assumption | omega) (hdo.1)) (cwV 0 hts gX4_drift_X0_driftOnce rfl rfl rfl (by decide +kernel) ⟨Nat.le_of_ble_eq_true rfl, Nat.le_of_ble_eq_true rfl⟩) (rw_preV hKK (hP.sub [1, 2, 3, 4, 5, 6, 7, 8] rfl) (hD.sub [1, 2, 3, 4, 5, 6, 7, 8] (by decide) rfl) rfl rfl) rfl rfl hl.1 rfl (lv_room (Nat.le_of_ble_eq_true rfl)) dX4_drift_31 ⟨Nat.zero_le _, Nat.zero_le _⟩) (wr := [(x0, .inr (4, [.ref t0, .ref b0, .ref k0, .int (bi im), .ref sa]))]) hP hD hS hA [1, 2, 3, 4, 5, 6, 7, 8] [0] rfl rfl (by decide) (by decide) (fun H locs hP hD hS => ?_)
    have hP : va_P (dC, dI) vwCl [(x0, .inr (4, [.ref t0, .ref b0, .ref k0, .int (bi im), .ref sa])), (b0, .inr (0, [.ref h3, .ref hrs, .int (nI (lcg ((dIt n Kd Wd (dr, kn, nx, Rr, Pr, Pd) i).1))), .int (nI (min (((dIt n Kd Wd (dr, kn, nx, Rr, Pr, Pd) i).2.1) + 1) 8)), .int (nI ((((dIt n Kd Wd (dr, kn, nx, Rr, Pr, Pd) i).2.2.1) + 1) % 8)), .ref hpr, .ref hpd])), (h3, .inr (3, [.int (nI n), .int (nI h), .int (nI rg), .int (nI sp), .ref hk, .ref hw, .ref hs])), (hk, .inl (cI, 6, .inl kf)), (hw, .inl (cI, 6, .inl wf)), (hs, .inl (cI, 6, .inl sf)), (hrs, .inl (cI, 24, .inl (nA (dfR n Kd Wd ((dIt n Kd Wd (dr, kn, nx, Rr, Pr, Pd) i).2.2.2.1) (lcg ((dIt n Kd Wd (dr, kn, nx, Rr, Pr, Pd) i).1)))))), (hpr, .inl (cI, 192, .inl (nA (cpN ((dIt n Kd Wd (dr, kn, nx, Rr, Pr, Pd) i).2.2.2.1) ((dIt n Kd Wd (dr, kn, nx, Rr, Pr, Pd) i).2.2.2.2.1) 0 (((dIt n Kd Wd (dr, kn, nx, Rr, Pr, Pd) i).2.2.1) * 24) 24)))), (hpd, .inl (cI, 8, .inl (nA (uN ((dIt n Kd Wd (dr, kn, nx, Rr, Pr, Pd) i).2.2.2.2.2) ((dIt n Kd Wd (dr, kn, nx, Rr, Pr, Pd) i).2.2.1) ((dIt n Kd Wd (dr, kn, nx, Rr, Pr, Pd) i).1)))))] H := hP.sub [0, 1, 2, 3, 4, 5, 6, 7, 8] rfl
    have hD : va_D A [(x0, .inr (4, [.ref t0, .ref b0, .ref k0, .int (bi im), .ref sa])), (b0, .inr (0, [.ref h3, .ref hrs, .int (nI (lcg ((dIt n Kd Wd (dr, kn, nx, Rr, Pr, Pd) i).1))), .int (nI (min (((dIt n Kd Wd (dr, kn, nx, Rr, Pr, Pd) i).2.1) + 1) 8)), .int (nI ((((dIt n Kd Wd (dr, kn, nx, Rr, Pr, Pd) i).2.2.1) + 1) % 8)), .ref hpr, .ref hpd])), (h3, .inr (3, [.int (nI n), .int (nI h), .int (nI rg), .int (nI sp), .ref hk, .ref hw, .ref hs])), (hk, .inl (cI, 6, .inl kf)), (hw, .inl (cI, 6, .inl wf)), (hs, .inl (cI, 6, .inl sf)), (hrs, .inl (cI, 24, .inl (nA (dfR n Kd Wd ((dIt n Kd Wd (dr, kn, nx, Rr, Pr, Pd) i).2.2.2.1) (lcg ((dIt n Kd Wd (dr, kn, nx, Rr, Pr, Pd) i).1)))))), (hpr, .inl (cI, 192, .inl (nA (cpN ((dIt n Kd Wd (dr, kn, nx, Rr, Pr, Pd) i).2.2.2.1) ((dIt n Kd Wd (dr, kn, nx, Rr, Pr, Pd) i).2.2.2.2.1) 0 (((dIt n Kd Wd (dr, kn, nx, Rr, Pr, Pd) i).2.2.1) * 24) 24)))), (hpd, .inl (cI, 8, .inl (nA (uN ((dIt n Kd Wd (dr, kn, nx, Rr, Pr, Pd) i).2.2.2.2.2) ((dIt n Kd Wd (dr, kn, nx, Rr, Pr, Pd) i).2.2.1) ((dIt n Kd Wd (dr, kn, nx, Rr, Pr, Pd) i).1)))))] := hD.sub [0, 1, 2, 3, 4, 5, 6, 7, 8] (by decide) rfl
    have hP : va_P (dC, dI) vwCl [(x0, .inr (4, [.ref t0, .ref b0, .ref k0, .int (bi im), .ref sa])), (b0, .inr (0, [.ref h3, .ref hrs, .int (nI ((dIt n Kd Wd (dr, kn, nx, Rr, Pr, Pd) (i + 1)).1)), .int (nI ((dIt n Kd Wd (dr, kn, nx, Rr, Pr, Pd) (i + 1)).2.1)), .int (nI ((dIt n Kd Wd (dr, kn, nx, Rr, Pr, Pd) (i + 1)).2.2.1)), .ref hpr, .ref hpd])), (h3, .inr (3, [.int (nI n), .int (nI h), .int (nI rg), .int (nI sp), .ref hk, .ref hw, .ref hs])), (hk, .inl (cI, 6, .inl kf)), (hw, .inl (cI, 6, .inl wf)), (hs, .inl (cI, 6, .inl sf)), (hrs, .inl (cI, 24, .inl (nA ((dIt n Kd Wd (dr, kn, nx, Rr, Pr, Pd) (i + 1)).2.2.2.1)))), (hpr, .inl (cI, 192, .inl (nA ((dIt n Kd Wd (dr, kn, nx, Rr, Pr, Pd) (i + 1)).2.2.2.2.1)))), (hpd, .inl (cI, 8, .inl (nA ((dIt n Kd Wd (dr, kn, nx, Rr, Pr, Pd) (i + 1)).2.2.2.2.2))))] H := hP
    have hD : va_D A [(x0, .inr (4, [.ref t0, .ref b0, .ref k0, .int (bi im), .ref sa])), (b0, .inr (0, [.ref h3, .ref hrs, .int (nI ((dIt n Kd Wd (dr, kn, nx, Rr, Pr, Pd) (i + 1)).1)), .int (nI ((dIt n Kd Wd (dr, kn, nx, Rr, Pr, Pd) (i + 1)).2.1)), .int (nI ((dIt n Kd Wd (dr, kn, nx, Rr, Pr, Pd) (i + 1)).2.2.1)), .ref hpr, .ref hpd])), (h3, .inr (3, [.int (nI n), .int (nI h), .int (nI rg), .int (nI sp), .ref hk, .ref hw, .ref hs])), (hk, .inl (cI, 6, .inl kf)), (hw, .inl (cI, 6, .inl wf)), (hs, .inl (cI, 6, .inl sf)), (hrs, .inl (cI, 24, .inl (nA ((dIt n Kd Wd (dr, kn, nx, Rr, Pr, Pd) (i + 1)).2.2.2.1)))), (hpr, .inl (cI, 192, .inl (nA ((dIt n Kd Wd (dr, kn, nx, Rr, Pr, Pd) (i + 1)).2.2.2.2.1)))), (hpd, .inl (cI, 8, .inl (nA ((dIt n Kd Wd (dr, kn, nx, Rr, Pr, Pd) (i + 1)).2.2.2.2.2))))] := hD
    refine lv_iinc (v := (nI (i + 1))) (lv' := [(2, .int (nI (i + 1))), (0, .ref x0), (1, .int (nI t))]) hx hb dX4_drift_34 hl (k := 0) rfl (rn_inc i 1) (by decide) rfl (fun ls hl => ?_)
    refine lv_goto (tgt := 15) hx hb dX4_drift_37 (by decide) ?_
    exact ih15 (i + 1) _ _ ls ⟨by omega, hP, hD, hS, lv_sub hl [0, 1, 2] rfl⟩ (by omega)
  first | exact absurd c2 (by omega) | exact absurd c8 (by omega)
set_option maxHeartbeats 4000000 in
set_option maxRecDepth 100000 in
theorem c_X4_drift_b (l : Launch) (dC : Nat → ClassId) (dI : Nat → Nat → Nat) (cI cJ cS : ClassId) (x0 t0 k0 sa : Nat) (im : Bool) (b0 h3 hk hw hs hrs hpr hpd : Nat) (n h rg sp dr kn nx : Nat) (kf wf sf : Nat → Int32) (Kd Wd Sh Rr Pr Pd : Nat → Nat) (x : Int32) (hbad : inL x.toInt64 1 40 = false) : Met l yX4_drift wsX4_drift ({ frames := 6, cells := 0, slots := 0, locals := 137 }) (va_Pc [.ref x0, .int x] (rB (dC, dI) vwCl [(x0, .inr (4, [.ref t0, .ref b0, .ref k0, .int (bi im), .ref sa])), (b0, .inr (0, [.ref h3, .ref hrs, .int (nI dr), .int (nI kn), .int (nI nx), .ref hpr, .ref hpd])), (h3, .inr (3, [.int (nI n), .int (nI h), .int (nI rg), .int (nI sp), .ref hk, .ref hw, .ref hs])), (hk, .inl (cI, 6, .inl kf)), (hw, .inl (cI, 6, .inl wf)), (hs, .inl (cI, 6, .inl sf)), (hrs, .inl (cI, 24, .inl (nA Rr))), (hpr, .inl (cI, 192, .inl (nA Pr))), (hpd, .inl (cI, 8, .inl (nA Pd)))] (tyz cI cJ cS))) (QcRead (-1)) 0 0 (fun _ => False) := by
  refine Met.ofW (cc := cX4_drift) (maxL := 3) (ret := (some .int)) (by decide) rfl ?_
  intro p e s m args below meth c s₁ B hml hv
  obtain ⟨rfl, hP, hKK⟩ := hv
  have hK := hKK.1
  have hx := B.exec
  have hb := B.bytes
  have hr := B.returns
  have hts := atoms_spec (ws := wsX4_drift) B.pre
  have hown : s.vm.findClass RX4 = some m.cls := findClass_of_methodNamed B.named
  have hlocks := B.notSynchronized
  have hiX4 : ∀ w ∈ wsX40, w ∈ wsX4_drift := by decide +kernel
  have hl := lv_entry ([.ref x0, .int x]) (n := 3) (Nat.le_of_ble_eq_true rfl)
  rw [lg_entry_eq]
  generalize (lg_sl ([.ref x0, .int x]) ++ List.replicate (3 - (lg_sl ([.ref x0, .int x])).length) Slot.unset).toArray = ls at hl ⊢
  have hl : lv_has ls 3 [(0, .ref x0), (1, .int x)] := hl
  refine lv_iload_n hx hb dX4_drift_0 rfl (lv_at hl 1 rfl) ?_
  refine lv_iconst (v := (nI 1)) hx hb dX4_drift_1 (by decide) ?_
  refine lv_icmp_lt (tgt := 11) hx hb dX4_drift_2 (by decide) (fun c2 => ?_) (fun c2 => ?_)
  · skip
    refine lv_iconst (v := (-1)) hx hb dX4_drift_11 (by decide) ?_
    exact rr_iret hx hb hr hlocks dX4_drift_12 (rfl)
  refine lv_iload_n hx hb dX4_drift_5 rfl (lv_at hl 1 rfl) ?_
  refine lv_bipush (v := (nI 40)) hx hb dX4_drift_6 (by decide) ?_
  refine lv_icmp_le (tgt := 13) hx hb dX4_drift_8 (by decide) (fun c8 => ?_) (fun c8 => ?_)
  · skip
    exact absurd (dr_bad hbad c2 c8) id
  refine lv_iconst (v := (-1)) hx hb dX4_drift_11 (by decide) ?_
  exact rr_iret hx hb hr hlocks dX4_drift_12 (rfl)
set_option maxHeartbeats 4000000 in
set_option maxRecDepth 100000 in
theorem c_X4_undo_0 (l : Launch) (dC : Nat → ClassId) (dI : Nat → Nat → Nat) (cI cJ cS : ClassId) (x0 t0 k0 sa : Nat) (im : Bool) (b0 h3 hk hw hs hrs hpr hpd : Nat) (n h rg sp dr kn nx : Nat) (kf wf sf : Nat → Int32) (Kd Wd Sh Rr Pr Pd : Nat → Nat) (hkn : kn = 0) : Met l yX4_undo wsX4_undo ({ frames := 2, cells := 0, slots := 0, locals := 80 }) (va_Pc [.ref x0] (rB (dC, dI) vwCl [(x0, .inr (4, [.ref t0, .ref b0, .ref k0, .int (bi im), .ref sa])), (b0, .inr (0, [.ref h3, .ref hrs, .int (nI dr), .int (nI kn), .int (nI nx), .ref hpr, .ref hpd])), (h3, .inr (3, [.int (nI n), .int (nI h), .int (nI rg), .int (nI sp), .ref hk, .ref hw, .ref hs])), (hk, .inl (cI, 6, .inl kf)), (hw, .inl (cI, 6, .inl wf)), (hs, .inl (cI, 6, .inl sf)), (hrs, .inl (cI, 24, .inl (nA Rr))), (hpr, .inl (cI, 192, .inl (nA Pr))), (hpd, .inl (cI, 8, .inl (nA Pd)))] (tyz cI cJ cS))) (QcRead (-4)) 0 0 (fun _ => False) := by
  refine Met.ofW (cc := cX4_undo) (maxL := 1) (ret := (some .int)) (by decide) rfl ?_
  intro p e s m args below meth c s₁ B hml hv
  obtain ⟨rfl, hP, hKK⟩ := hv
  have hK := hKK.1
  have hx := B.exec
  have hb := B.bytes
  have hr := B.returns
  have hts := atoms_spec (ws := wsX4_undo) B.pre
  have hown : s.vm.findClass RX4 = some m.cls := findClass_of_methodNamed B.named
  have hlocks := B.notSynchronized
  have hiX0 : ∀ w ∈ wsX00, w ∈ wsX4_undo := by decide +kernel
  have hiX4 : ∀ w ∈ wsX40, w ∈ wsX4_undo := by decide +kernel
  have hl := lv_entry ([.ref x0]) (n := 1) (Nat.le_of_ble_eq_true rfl)
  rw [lg_entry_eq]
  generalize (lg_sl ([.ref x0]) ++ List.replicate (1 - (lg_sl ([.ref x0])).length) Slot.unset).toArray = ls at hl ⊢
  have hl : lv_has ls 1 [(0, .ref x0)] := hl
  refine lv_aload_n hx hb dX4_undo_0 rfl (lv_at hl 0 rfl) ?_
  refine va_get (D := (dC, dI)) (ci := 4) (v := .ref b0) (C := RX4) (T := TX4) (N := 5) hx hb hts hiX4 hown hK hP 0 rfl rfl 1 (by decide) (hts (.fieldLink RX4 19 "RestRegisters" "now" "LRestRegisters$Bank;") (by decide +kernel)) (fun _ h9 => h9) rfl dX4_undo_1 ?_
  refine rr_callR (va_runV (As := []) (rest := []) ⟨hx, hb, hml, hown, hts⟩ (c_X0_goBack_0 l dC dI cI cJ cS b0 h3 hk hw hs hrs hpr hpd n h rg sp dr kn nx kf wf sf Kd Wd Sh Rr Pr Pd (by first | assumption | omega)) (cwV 0 hts gX4_undo_X0_goBack rfl rfl rfl (by decide +kernel) ⟨Nat.le_of_ble_eq_true rfl, Nat.le_of_ble_eq_true rfl⟩) (rr_preV hKK (hP.sub [1, 2, 3, 4, 5, 6, 7, 8] rfl) rfl rfl) rfl rfl hl.1 rfl (lv_room (Nat.le_of_ble_eq_true rfl)) dX4_undo_4 ⟨Nat.zero_le _, Nat.zero_le _⟩) ?_
  refine rb_if_eq (tgt := 20) hx hb dX4_undo_7 (by decide) (fun c7 => ?_) (fun c7 => ?_)
  rotate_left
  · exact absurd c7 (by decide)
  refine lv_bipush (v := (-4)) hx hb dX4_undo_20 (by decide) ?_
  exact rr_iret hx hb hr hlocks dX4_undo_22 (rfl)
set_option maxHeartbeats 4000000 in
set_option maxRecDepth 100000 in
theorem c_X4_undo_1 (l : Launch) (dC : Nat → ClassId) (dI : Nat → Nat → Nat) (cI cJ cS : ClassId) (sz : Nat) (x0 t0 k0 sa : Nat) (im : Bool) (b0 h3 hk hw hs hrs hpr hpd : Nat) (n h rg sp dr kn nx : Nat) (kf wf sf : Nat → Int32) (Kd Wd Sh Rr Pr Pd : Nat → Nat) (hkn : 0 < kn) (hkn8 : kn ≤ 8) (hnx : nx < 8) : Met l yX4_undo wsX4_undo ({ frames := 2, cells := 0, slots := 0, locals := 80 }) (va_Pc [.ref x0] (rW (dC, dI) vwCl [(x0, .inr (4, [.ref t0, .ref b0, .ref k0, .int (bi im), .ref sa])), (b0, .inr (0, [.ref h3, .ref hrs, .int (nI dr), .int (nI kn), .int (nI nx), .ref hpr, .ref hpd])), (h3, .inr (3, [.int (nI n), .int (nI h), .int (nI rg), .int (nI sp), .ref hk, .ref hw, .ref hs])), (hk, .inl (cI, 6, .inl kf)), (hw, .inl (cI, 6, .inl wf)), (hs, .inl (cI, 6, .inl sf)), (hrs, .inl (cI, 24, .inl (nA Rr))), (hpr, .inl (cI, 192, .inl (nA Pr))), (hpd, .inl (cI, 8, .inl (nA Pd)))] (tyz cI cJ cS) sz)) (qI (nI (kn - 1)) (dC, dI) vwCl [(x0, .inr (4, [.ref t0, .ref b0, .ref k0, .int (bi im), .ref sa])), (b0, .inr (0, [.ref h3, .ref hrs, .int (nI (Pd ((nx + 8 - 1) % 8))), .int (nI (kn - 1)), .int (nI ((nx + 8 - 1) % 8)), .ref hpr, .ref hpd])), (h3, .inr (3, [.int (nI n), .int (nI h), .int (nI rg), .int (nI sp), .ref hk, .ref hw, .ref hs])), (hk, .inl (cI, 6, .inl kf)), (hw, .inl (cI, 6, .inl wf)), (hs, .inl (cI, 6, .inl sf)), (hrs, .inl (cI, 24, .inl (nA (cpN Pr Rr ((nx + 8 - 1) % 8 * 24) 0 24)))), (hpr, .inl (cI, 192, .inl (nA Pr))), (hpd, .inl (cI, 8, .inl (nA Pd)))] (va_A [(x0, .inr (4, [.ref t0, .ref b0, .ref k0, .int (bi im), .ref sa])), (b0, .inr (0, [.ref h3, .ref hrs, .int (nI dr), .int (nI kn), .int (nI nx), .ref hpr, .ref hpd])), (h3, .inr (3, [.int (nI n), .int (nI h), .int (nI rg), .int (nI sp), .ref hk, .ref hw, .ref hs])), (hk, .inl (cI, 6, .inl kf)), (hw, .inl (cI, 6, .inl wf)), (hs, .inl (cI, 6, .inl sf)), (hrs, .inl (cI, 24, .inl (nA Rr))), (hpr, .inl (cI, 192, .inl (nA Pr))), (hpd, .inl (cI, 8, .inl (nA Pd)))] sz)) 0 0 (va_A [(x0, .inr (4, [.ref t0, .ref b0, .ref k0, .int (bi im), .ref sa])), (b0, .inr (0, [.ref h3, .ref hrs, .int (nI dr), .int (nI kn), .int (nI nx), .ref hpr, .ref hpd])), (h3, .inr (3, [.int (nI n), .int (nI h), .int (nI rg), .int (nI sp), .ref hk, .ref hw, .ref hs])), (hk, .inl (cI, 6, .inl kf)), (hw, .inl (cI, 6, .inl wf)), (hs, .inl (cI, 6, .inl sf)), (hrs, .inl (cI, 24, .inl (nA Rr))), (hpr, .inl (cI, 192, .inl (nA Pr))), (hpd, .inl (cI, 8, .inl (nA Pd)))] sz) := by
  refine Met.ofW (cc := cX4_undo) (maxL := 1) (ret := (some .int)) (by decide) rfl ?_
  intro p e s m args below meth c s₁ B hml hv
  obtain ⟨rfl, hsz, hP, hKK, hD0⟩ := hv
  have hK := hKK.1
  have hx := B.exec
  have hb := B.bytes
  have hr := B.returns
  have hts := atoms_spec (ws := wsX4_undo) B.pre
  have hown : s.vm.findClass RX4 = some m.cls := findClass_of_methodNamed B.named
  have hlocks := B.notSynchronized
  subst hsz
  have hD := hD0.self (sz := s.heap.size)
  generalize hAe : va_A [(x0, .inr (4, [.ref t0, .ref b0, .ref k0, .int (bi im), .ref sa])), (b0, .inr (0, [.ref h3, .ref hrs, .int (nI dr), .int (nI kn), .int (nI nx), .ref hpr, .ref hpd])), (h3, .inr (3, [.int (nI n), .int (nI h), .int (nI rg), .int (nI sp), .ref hk, .ref hw, .ref hs])), (hk, .inl (cI, 6, .inl kf)), (hw, .inl (cI, 6, .inl wf)), (hs, .inl (cI, 6, .inl sf)), (hrs, .inl (cI, 24, .inl (nA Rr))), (hpr, .inl (cI, 192, .inl (nA Pr))), (hpd, .inl (cI, 8, .inl (nA Pd)))] s.heap.size = A at hD ⊢
  have hA : ∀ q : Nat, s.heap.size ≤ q → A q := fun q h => by rw [← hAe]; exact Or.inr h
  have hS : va_S A s.heap s.heap [] := va_S.rf
  have hP : va_P (dC, dI) vwCl [(x0, .inr (4, [.ref t0, .ref b0, .ref k0, .int (bi im), .ref sa])), (b0, .inr (0, [.ref h3, .ref hrs, .int (nI dr), .int (nI kn), .int (nI nx), .ref hpr, .ref hpd])), (h3, .inr (3, [.int (nI n), .int (nI h), .int (nI rg), .int (nI sp), .ref hk, .ref hw, .ref hs])), (hk, .inl (cI, 6, .inl kf)), (hw, .inl (cI, 6, .inl wf)), (hs, .inl (cI, 6, .inl sf)), (hrs, .inl (cI, 24, .inl (nA Rr))), (hpr, .inl (cI, 192, .inl (nA Pr))), (hpd, .inl (cI, 8, .inl (nA Pd)))] s.heap := hP
  have hiX0 : ∀ w ∈ wsX00, w ∈ wsX4_undo := by decide +kernel
  have hiX4 : ∀ w ∈ wsX40, w ∈ wsX4_undo := by decide +kernel
  have hl := lv_entry ([.ref x0]) (n := 1) (Nat.le_of_ble_eq_true rfl)
  rw [lg_entry_eq]
  generalize (lg_sl ([.ref x0]) ++ List.replicate (1 - (lg_sl ([.ref x0])).length) Slot.unset).toArray = ls at hl ⊢
  have hl : lv_has ls 1 [(0, .ref x0)] := hl
  refine lv_aload_n hx hb dX4_undo_0 rfl (lv_at hl 0 rfl) ?_
  refine va_get (D := (dC, dI)) (ci := 4) (v := .ref b0) (C := RX4) (T := TX4) (N := 5) hx hb hts hiX4 hown hK hP 0 rfl rfl 1 (by decide) (hts (.fieldLink RX4 19 "RestRegisters" "now" "LRestRegisters$Bank;") (by decide +kernel)) (fun _ h9 => h9) rfl dX4_undo_1 ?_
  refine rw_calli (va_runV (As := []) (rest := []) ⟨hx, hb, hml, hown, hts⟩ (c_X0_goBack_1 l dC dI cI cJ cS _ b0 h3 hk hw hs hrs hpr hpd n h rg sp dr kn nx kf wf sf Kd Wd Sh Rr Pr Pd (by first | assumption | omega) (by first | assumption | omega) (by first | assumption | omega)) (cwV 0 hts gX4_undo_X0_goBack rfl rfl rfl (by decide +kernel) ⟨Nat.le_of_ble_eq_true rfl, Nat.le_of_ble_eq_true rfl⟩) (rw_preV hKK (hP.sub [1, 2, 3, 4, 5, 6, 7, 8] rfl) (hD.sub [1, 2, 3, 4, 5, 6, 7, 8] (by decide) rfl) rfl rfl) rfl rfl hl.1 rfl (lv_room (Nat.le_of_ble_eq_true rfl)) dX4_undo_4 ⟨Nat.zero_le _, Nat.zero_le _⟩) (wr := [(x0, .inr (4, [.ref t0, .ref b0, .ref k0, .int (bi im), .ref sa]))]) hP hD hS hA [1, 2, 3, 4, 5, 6, 7, 8] [0] rfl rfl (by decide) (by decide) (fun H locs hP hD hS => ?_)
  have hP : va_P (dC, dI) vwCl [(x0, .inr (4, [.ref t0, .ref b0, .ref k0, .int (bi im), .ref sa])), (b0, .inr (0, [.ref h3, .ref hrs, .int (nI (Pd ((nx + 8 - 1) % 8))), .int (nI (kn - 1)), .int (nI ((nx + 8 - 1) % 8)), .ref hpr, .ref hpd])), (h3, .inr (3, [.int (nI n), .int (nI h), .int (nI rg), .int (nI sp), .ref hk, .ref hw, .ref hs])), (hk, .inl (cI, 6, .inl kf)), (hw, .inl (cI, 6, .inl wf)), (hs, .inl (cI, 6, .inl sf)), (hrs, .inl (cI, 24, .inl (nA (cpN Pr Rr ((nx + 8 - 1) % 8 * 24) 0 24)))), (hpr, .inl (cI, 192, .inl (nA Pr))), (hpd, .inl (cI, 8, .inl (nA Pd)))] H := hP.sub [0, 1, 2, 3, 4, 5, 6, 7, 8] rfl
  have hD : va_D A [(x0, .inr (4, [.ref t0, .ref b0, .ref k0, .int (bi im), .ref sa])), (b0, .inr (0, [.ref h3, .ref hrs, .int (nI (Pd ((nx + 8 - 1) % 8))), .int (nI (kn - 1)), .int (nI ((nx + 8 - 1) % 8)), .ref hpr, .ref hpd])), (h3, .inr (3, [.int (nI n), .int (nI h), .int (nI rg), .int (nI sp), .ref hk, .ref hw, .ref hs])), (hk, .inl (cI, 6, .inl kf)), (hw, .inl (cI, 6, .inl wf)), (hs, .inl (cI, 6, .inl sf)), (hrs, .inl (cI, 24, .inl (nA (cpN Pr Rr ((nx + 8 - 1) % 8 * 24) 0 24)))), (hpr, .inl (cI, 192, .inl (nA Pr))), (hpd, .inl (cI, 8, .inl (nA Pd)))] := hD.sub [0, 1, 2, 3, 4, 5, 6, 7, 8] (by decide) rfl
  refine rb_if_eq (tgt := 20) hx hb dX4_undo_7 (by decide) (fun c7 => ?_) (fun c7 => ?_)
  · exact absurd c7 (by decide)
  refine lv_aload_n hx hb dX4_undo_10 rfl (lv_at hl 0 rfl) ?_
  refine va_get (D := (dC, dI)) (ci := 4) (v := .ref b0) (C := RX4) (T := TX4) (N := 5) hx hb hts hiX4 hown hK hP 0 rfl rfl 1 (by decide) (hts (.fieldLink RX4 19 "RestRegisters" "now" "LRestRegisters$Bank;") (by decide +kernel)) (fun _ h9 => h9) rfl dX4_undo_11 ?_
  refine va_get (D := (dC, dI)) (ci := 0) (v := .int (nI (kn - 1))) (C := RX0) (T := TX0) (N := 7) hx hb hts hiX0 hown hK hP 1 rfl rfl 3 (by decide) (hts (.fieldLink RX4 119 "RestRegisters$Bank" "known" "I") (by decide +kernel)) (fun _ h9 => h9) rfl dX4_undo_14 ?_
  refine lv_goto (tgt := 22) hx hb dX4_undo_17 (by decide) ?_
  exact rr_iretW hx hb hr hlocks dX4_undo_22 hP hD hS (rfl)
set_option maxHeartbeats 4000000 in
set_option maxRecDepth 100000 in
theorem c_X4_seed_g (l : Launch) (dC : Nat → ClassId) (dI : Nat → Nat → Nat) (cI cJ cS : ClassId) (sz : Nat) (x0 t0 k0 sa : Nat) (im : Bool) (b0 h3 hk hw hs hrs hpr hpd : Nat) (n h rg sp dr kn nx : Nat) (kf wf sf : Nat → Int32) (Kd Wd Sh Rr Pr Pd : Nat → Nat) (d : Nat) (hd2 : d < 2 ^ 31) : Met l yX4_seed wsX4_seed ({ frames := 0, cells := 0, slots := 0, locals := 0 }) (va_Pc [.ref x0, .int (nI d)] (rW (dC, dI) vwCl [(x0, .inr (4, [.ref t0, .ref b0, .ref k0, .int (bi im), .ref sa])), (b0, .inr (0, [.ref h3, .ref hrs, .int (nI dr), .int (nI kn), .int (nI nx), .ref hpr, .ref hpd])), (h3, .inr (3, [.int (nI n), .int (nI h), .int (nI rg), .int (nI sp), .ref hk, .ref hw, .ref hs])), (hk, .inl (cI, 6, .inl kf)), (hw, .inl (cI, 6, .inl wf)), (hs, .inl (cI, 6, .inl sf)), (hrs, .inl (cI, 24, .inl (nA Rr))), (hpr, .inl (cI, 192, .inl (nA Pr))), (hpd, .inl (cI, 8, .inl (nA Pd)))] (tyz cI cJ cS) sz)) (qI (nI dr) (dC, dI) vwCl [(x0, .inr (4, [.ref t0, .ref b0, .ref k0, .int (bi im), .ref sa])), (b0, .inr (0, [.ref h3, .ref hrs, .int (nI d), .int (nI kn), .int (nI nx), .ref hpr, .ref hpd])), (h3, .inr (3, [.int (nI n), .int (nI h), .int (nI rg), .int (nI sp), .ref hk, .ref hw, .ref hs])), (hk, .inl (cI, 6, .inl kf)), (hw, .inl (cI, 6, .inl wf)), (hs, .inl (cI, 6, .inl sf)), (hrs, .inl (cI, 24, .inl (nA Rr))), (hpr, .inl (cI, 192, .inl (nA Pr))), (hpd, .inl (cI, 8, .inl (nA Pd)))] (va_A [(x0, .inr (4, [.ref t0, .ref b0, .ref k0, .int (bi im), .ref sa])), (b0, .inr (0, [.ref h3, .ref hrs, .int (nI dr), .int (nI kn), .int (nI nx), .ref hpr, .ref hpd])), (h3, .inr (3, [.int (nI n), .int (nI h), .int (nI rg), .int (nI sp), .ref hk, .ref hw, .ref hs])), (hk, .inl (cI, 6, .inl kf)), (hw, .inl (cI, 6, .inl wf)), (hs, .inl (cI, 6, .inl sf)), (hrs, .inl (cI, 24, .inl (nA Rr))), (hpr, .inl (cI, 192, .inl (nA Pr))), (hpd, .inl (cI, 8, .inl (nA Pd)))] sz)) 0 0 (va_A [(x0, .inr (4, [.ref t0, .ref b0, .ref k0, .int (bi im), .ref sa])), (b0, .inr (0, [.ref h3, .ref hrs, .int (nI dr), .int (nI kn), .int (nI nx), .ref hpr, .ref hpd])), (h3, .inr (3, [.int (nI n), .int (nI h), .int (nI rg), .int (nI sp), .ref hk, .ref hw, .ref hs])), (hk, .inl (cI, 6, .inl kf)), (hw, .inl (cI, 6, .inl wf)), (hs, .inl (cI, 6, .inl sf)), (hrs, .inl (cI, 24, .inl (nA Rr))), (hpr, .inl (cI, 192, .inl (nA Pr))), (hpd, .inl (cI, 8, .inl (nA Pd)))] sz) := by
  refine Met.ofW (cc := cX4_seed) (maxL := 3) (ret := (some .int)) (by decide) rfl ?_
  intro p e s m args below meth c s₁ B hml hv
  obtain ⟨rfl, hsz, hP, hKK, hD0⟩ := hv
  have hK := hKK.1
  have hx := B.exec
  have hb := B.bytes
  have hr := B.returns
  have hts := atoms_spec (ws := wsX4_seed) B.pre
  have hown : s.vm.findClass RX4 = some m.cls := findClass_of_methodNamed B.named
  have hlocks := B.notSynchronized
  subst hsz
  have hD := hD0.self (sz := s.heap.size)
  generalize hAe : va_A [(x0, .inr (4, [.ref t0, .ref b0, .ref k0, .int (bi im), .ref sa])), (b0, .inr (0, [.ref h3, .ref hrs, .int (nI dr), .int (nI kn), .int (nI nx), .ref hpr, .ref hpd])), (h3, .inr (3, [.int (nI n), .int (nI h), .int (nI rg), .int (nI sp), .ref hk, .ref hw, .ref hs])), (hk, .inl (cI, 6, .inl kf)), (hw, .inl (cI, 6, .inl wf)), (hs, .inl (cI, 6, .inl sf)), (hrs, .inl (cI, 24, .inl (nA Rr))), (hpr, .inl (cI, 192, .inl (nA Pr))), (hpd, .inl (cI, 8, .inl (nA Pd)))] s.heap.size = A at hD ⊢
  have hA : ∀ q : Nat, s.heap.size ≤ q → A q := fun q h => by rw [← hAe]; exact Or.inr h
  have hS : va_S A s.heap s.heap [] := va_S.rf
  have hP : va_P (dC, dI) vwCl [(x0, .inr (4, [.ref t0, .ref b0, .ref k0, .int (bi im), .ref sa])), (b0, .inr (0, [.ref h3, .ref hrs, .int (nI dr), .int (nI kn), .int (nI nx), .ref hpr, .ref hpd])), (h3, .inr (3, [.int (nI n), .int (nI h), .int (nI rg), .int (nI sp), .ref hk, .ref hw, .ref hs])), (hk, .inl (cI, 6, .inl kf)), (hw, .inl (cI, 6, .inl wf)), (hs, .inl (cI, 6, .inl sf)), (hrs, .inl (cI, 24, .inl (nA Rr))), (hpr, .inl (cI, 192, .inl (nA Pr))), (hpd, .inl (cI, 8, .inl (nA Pd)))] s.heap := hP
  have hiX0 : ∀ w ∈ wsX00, w ∈ wsX4_seed := by decide +kernel
  have hiX4 : ∀ w ∈ wsX40, w ∈ wsX4_seed := by decide +kernel
  have hl := lv_entry ([.ref x0, .int (nI d)]) (n := 3) (Nat.le_of_ble_eq_true rfl)
  rw [lg_entry_eq]
  generalize (lg_sl ([.ref x0, .int (nI d)]) ++ List.replicate (3 - (lg_sl ([.ref x0, .int (nI d)])).length) Slot.unset).toArray = ls at hl ⊢
  have hl : lv_has ls 3 [(0, .ref x0), (1, .int (nI d))] := hl
  refine lv_iload_n hx hb dX4_seed_0 rfl (lv_at hl 1 rfl) ?_
  refine rn_if_ge (tgt := 6) hx hb dX4_seed_1 (by decide) (by omega) ?_
  refine lv_aload_n hx hb dX4_seed_6 rfl (lv_at hl 0 rfl) ?_
  refine va_get (D := (dC, dI)) (ci := 4) (v := .ref b0) (C := RX4) (T := TX4) (N := 5) hx hb hts hiX4 hown hK hP 0 rfl rfl 1 (by decide) (hts (.fieldLink RX4 19 "RestRegisters" "now" "LRestRegisters$Bank;") (by decide +kernel)) (fun _ h9 => h9) rfl dX4_seed_7 ?_
  refine va_get (D := (dC, dI)) (ci := 0) (v := .int (nI dr)) (C := RX0) (T := TX0) (N := 7) hx hb hts hiX0 hown hK hP 1 rfl rfl 2 (by decide) (hts (.fieldLink RX4 151 "RestRegisters$Bank" "draw" "I") (by decide +kernel)) (fun _ h9 => h9) rfl dX4_seed_10 ?_
  refine lv_istore_n (lv' := [(2, .int (nI dr)), (0, .ref x0), (1, .int (nI d))]) hx hb dX4_seed_13 rfl hl (by decide) rfl (fun ls hl => ?_)
  refine lv_aload_n hx hb dX4_seed_14 rfl (lv_at hl 1 rfl) ?_
  refine va_get (D := (dC, dI)) (ci := 4) (v := .ref b0) (C := RX4) (T := TX4) (N := 5) hx hb hts hiX4 hown hK hP 0 rfl rfl 1 (by decide) (hts (.fieldLink RX4 19 "RestRegisters" "now" "LRestRegisters$Bank;") (by decide +kernel)) (fun _ h9 => h9) rfl dX4_seed_15 ?_
  refine lv_iload_n hx hb dX4_seed_18 rfl (lv_at hl 2 rfl) ?_
  refine va_put (D := (dC, dI)) (ci := 0) (v := .int (nI d)) (ty := .int) (C := RX0) (T := TX0) (N := 7) hx hb hts hiX0 tyX0 tyX0_ok nmX0 hown hK hP hD hS 1 rfl rfl 2 (by decide) (hts (.fieldLink RX4 151 "RestRegisters$Bank" "draw" "I") (by decide +kernel)) (fun _ h9 => h9) rfl (by decide +kernel) rfl rfl (Nat.le_of_ble_eq_true rfl) dX4_seed_19 (fun H locs hP hD hS => ?_)
  have hP : va_P (dC, dI) vwCl [(x0, .inr (4, [.ref t0, .ref b0, .ref k0, .int (bi im), .ref sa])), (b0, .inr (0, [.ref h3, .ref hrs, .int (nI d), .int (nI kn), .int (nI nx), .ref hpr, .ref hpd])), (h3, .inr (3, [.int (nI n), .int (nI h), .int (nI rg), .int (nI sp), .ref hk, .ref hw, .ref hs])), (hk, .inl (cI, 6, .inl kf)), (hw, .inl (cI, 6, .inl wf)), (hs, .inl (cI, 6, .inl sf)), (hrs, .inl (cI, 24, .inl (nA Rr))), (hpr, .inl (cI, 192, .inl (nA Pr))), (hpd, .inl (cI, 8, .inl (nA Pd)))] H := hP
  have hD : va_D A [(x0, .inr (4, [.ref t0, .ref b0, .ref k0, .int (bi im), .ref sa])), (b0, .inr (0, [.ref h3, .ref hrs, .int (nI d), .int (nI kn), .int (nI nx), .ref hpr, .ref hpd])), (h3, .inr (3, [.int (nI n), .int (nI h), .int (nI rg), .int (nI sp), .ref hk, .ref hw, .ref hs])), (hk, .inl (cI, 6, .inl kf)), (hw, .inl (cI, 6, .inl wf)), (hs, .inl (cI, 6, .inl sf)), (hrs, .inl (cI, 24, .inl (nA Rr))), (hpr, .inl (cI, 192, .inl (nA Pr))), (hpd, .inl (cI, 8, .inl (nA Pd)))] := hD
  refine lv_iload_n hx hb dX4_seed_22 rfl (lv_at hl 0 rfl) ?_
  exact rr_iretW hx hb hr hlocks dX4_seed_23 hP hD hS (rfl)
set_option maxHeartbeats 4000000 in
set_option maxRecDepth 100000 in
theorem c_X4_seed_b (l : Launch) (dC : Nat → ClassId) (dI : Nat → Nat → Nat) (cI cJ cS : ClassId) (x0 t0 k0 sa : Nat) (im : Bool) (b0 h3 hk hw hs hrs hpr hpd : Nat) (n h rg sp dr kn nx : Nat) (kf wf sf : Nat → Int32) (Kd Wd Sh Rr Pr Pd : Nat → Nat) (x : Int32) (hbad : ¬ 0 ≤ x) : Met l yX4_seed wsX4_seed ({ frames := 0, cells := 0, slots := 0, locals := 0 }) (va_Pc [.ref x0, .int x] (rB (dC, dI) vwCl [(x0, .inr (4, [.ref t0, .ref b0, .ref k0, .int (bi im), .ref sa])), (b0, .inr (0, [.ref h3, .ref hrs, .int (nI dr), .int (nI kn), .int (nI nx), .ref hpr, .ref hpd])), (h3, .inr (3, [.int (nI n), .int (nI h), .int (nI rg), .int (nI sp), .ref hk, .ref hw, .ref hs])), (hk, .inl (cI, 6, .inl kf)), (hw, .inl (cI, 6, .inl wf)), (hs, .inl (cI, 6, .inl sf)), (hrs, .inl (cI, 24, .inl (nA Rr))), (hpr, .inl (cI, 192, .inl (nA Pr))), (hpd, .inl (cI, 8, .inl (nA Pd)))] (tyz cI cJ cS))) (QcRead (-1)) 0 0 (fun _ => False) := by
  refine Met.ofW (cc := cX4_seed) (maxL := 3) (ret := (some .int)) (by decide) rfl ?_
  intro p e s m args below meth c s₁ B hml hv
  obtain ⟨rfl, hP, hKK⟩ := hv
  have hK := hKK.1
  have hx := B.exec
  have hb := B.bytes
  have hr := B.returns
  have hts := atoms_spec (ws := wsX4_seed) B.pre
  have hown : s.vm.findClass RX4 = some m.cls := findClass_of_methodNamed B.named
  have hlocks := B.notSynchronized
  have hiX0 : ∀ w ∈ wsX00, w ∈ wsX4_seed := by decide +kernel
  have hiX4 : ∀ w ∈ wsX40, w ∈ wsX4_seed := by decide +kernel
  have hl := lv_entry ([.ref x0, .int x]) (n := 3) (Nat.le_of_ble_eq_true rfl)
  rw [lg_entry_eq]
  generalize (lg_sl ([.ref x0, .int x]) ++ List.replicate (3 - (lg_sl ([.ref x0, .int x])).length) Slot.unset).toArray = ls at hl ⊢
  have hl : lv_has ls 3 [(0, .ref x0), (1, .int x)] := hl
  refine lv_iload_n hx hb dX4_seed_0 rfl (lv_at hl 1 rfl) ?_
  refine lv_if_ge (tgt := 6) hx hb dX4_seed_1 (by decide) (fun c1 => ?_) (fun c1 => ?_)
  · skip
    exact absurd c1 hbad
  refine lv_iconst (v := (-1)) hx hb dX4_seed_4 (by decide) ?_
  exact rr_iret hx hb hr hlocks dX4_seed_5 (rfl)
set_option maxHeartbeats 4000000 in
set_option maxRecDepth 100000 in
theorem c_X4_image_g (l : Launch) (dC : Nat → ClassId) (dI : Nat → Nat → Nat) (cI cJ cS : ClassId) (sz : Nat) (x0 t0 k0 sa : Nat) (im : Bool) (b0 h3 hk hw hs hrs hpr hpd : Nat) (n h rg sp dr kn nx : Nat) (kf wf sf : Nat → Int32) (Kd Wd Sh Rr Pr Pd : Nat → Nat) (u3 uk uw us urs upr upd : Nat) (n2 h2 rg2 sp2 dr2 kn2 nx2 : Nat) (kf2 wf2 sf2 : Nat → Int32) (R2 P2 D2 : Nat → Nat) : Met l yX4_image wsX4_image ({ frames := 3, cells := 0, slots := 0, locals := 102 }) (va_Pc [.ref x0] (rW (dC, dI) vwCl [(x0, .inr (4, [.ref t0, .ref b0, .ref k0, .int (bi im), .ref sa])), (b0, .inr (0, [.ref h3, .ref hrs, .int (nI dr), .int (nI kn), .int (nI nx), .ref hpr, .ref hpd])), (h3, .inr (3, [.int (nI n), .int (nI h), .int (nI rg), .int (nI sp), .ref hk, .ref hw, .ref hs])), (hk, .inl (cI, 6, .inl kf)), (hw, .inl (cI, 6, .inl wf)), (hs, .inl (cI, 6, .inl sf)), (hrs, .inl (cI, 24, .inl (nA Rr))), (hpr, .inl (cI, 192, .inl (nA Pr))), (hpd, .inl (cI, 8, .inl (nA Pd))), (k0, .inr (0, [.ref u3, .ref urs, .int (nI dr2), .int (nI kn2), .int (nI nx2), .ref upr, .ref upd])), (u3, .inr (3, [.int (nI n2), .int (nI h2), .int (nI rg2), .int (nI sp2), .ref uk, .ref uw, .ref us])), (uk, .inl (cI, 6, .inl kf2)), (uw, .inl (cI, 6, .inl wf2)), (us, .inl (cI, 6, .inl sf2)), (urs, .inl (cI, 24, .inl (nA R2))), (upr, .inl (cI, 192, .inl (nA P2))), (upd, .inl (cI, 8, .inl (nA D2)))] (tyz cI cJ cS) sz)) (qI (nI 1) (dC, dI) vwCl [(x0, .inr (4, [.ref t0, .ref b0, .ref k0, .int (bi true), .ref sa])), (b0, .inr (0, [.ref h3, .ref hrs, .int (nI dr), .int (nI kn), .int (nI nx), .ref hpr, .ref hpd])), (h3, .inr (3, [.int (nI n), .int (nI h), .int (nI rg), .int (nI sp), .ref hk, .ref hw, .ref hs])), (hk, .inl (cI, 6, .inl kf)), (hw, .inl (cI, 6, .inl wf)), (hs, .inl (cI, 6, .inl sf)), (hrs, .inl (cI, 24, .inl (nA Rr))), (hpr, .inl (cI, 192, .inl (nA Pr))), (hpd, .inl (cI, 8, .inl (nA Pd))), (k0, .inr (0, [.ref u3, .ref urs, .int (nI dr), .int (nI kn), .int (nI nx), .ref upr, .ref upd])), (u3, .inr (3, [.int (nI n), .int (nI h), .int (nI rg), .int (nI sp), .ref uk, .ref uw, .ref us])), (uk, .inl (cI, 6, .inl (va_cpy kf kf2 0 0 6))), (uw, .inl (cI, 6, .inl (va_cpy wf wf2 0 0 6))), (us, .inl (cI, 6, .inl (va_cpy sf sf2 0 0 6))), (urs, .inl (cI, 24, .inl (nA (cpN Rr R2 0 0 24)))), (upr, .inl (cI, 192, .inl (nA (cpN Pr P2 0 0 192)))), (upd, .inl (cI, 8, .inl (nA (cpN Pd D2 0 0 8))))] (va_A [(x0, .inr (4, [.ref t0, .ref b0, .ref k0, .int (bi im), .ref sa])), (b0, .inr (0, [.ref h3, .ref hrs, .int (nI dr), .int (nI kn), .int (nI nx), .ref hpr, .ref hpd])), (h3, .inr (3, [.int (nI n), .int (nI h), .int (nI rg), .int (nI sp), .ref hk, .ref hw, .ref hs])), (hk, .inl (cI, 6, .inl kf)), (hw, .inl (cI, 6, .inl wf)), (hs, .inl (cI, 6, .inl sf)), (hrs, .inl (cI, 24, .inl (nA Rr))), (hpr, .inl (cI, 192, .inl (nA Pr))), (hpd, .inl (cI, 8, .inl (nA Pd))), (k0, .inr (0, [.ref u3, .ref urs, .int (nI dr2), .int (nI kn2), .int (nI nx2), .ref upr, .ref upd])), (u3, .inr (3, [.int (nI n2), .int (nI h2), .int (nI rg2), .int (nI sp2), .ref uk, .ref uw, .ref us])), (uk, .inl (cI, 6, .inl kf2)), (uw, .inl (cI, 6, .inl wf2)), (us, .inl (cI, 6, .inl sf2)), (urs, .inl (cI, 24, .inl (nA R2))), (upr, .inl (cI, 192, .inl (nA P2))), (upd, .inl (cI, 8, .inl (nA D2)))] sz)) 0 0 (va_A [(x0, .inr (4, [.ref t0, .ref b0, .ref k0, .int (bi im), .ref sa])), (b0, .inr (0, [.ref h3, .ref hrs, .int (nI dr), .int (nI kn), .int (nI nx), .ref hpr, .ref hpd])), (h3, .inr (3, [.int (nI n), .int (nI h), .int (nI rg), .int (nI sp), .ref hk, .ref hw, .ref hs])), (hk, .inl (cI, 6, .inl kf)), (hw, .inl (cI, 6, .inl wf)), (hs, .inl (cI, 6, .inl sf)), (hrs, .inl (cI, 24, .inl (nA Rr))), (hpr, .inl (cI, 192, .inl (nA Pr))), (hpd, .inl (cI, 8, .inl (nA Pd))), (k0, .inr (0, [.ref u3, .ref urs, .int (nI dr2), .int (nI kn2), .int (nI nx2), .ref upr, .ref upd])), (u3, .inr (3, [.int (nI n2), .int (nI h2), .int (nI rg2), .int (nI sp2), .ref uk, .ref uw, .ref us])), (uk, .inl (cI, 6, .inl kf2)), (uw, .inl (cI, 6, .inl wf2)), (us, .inl (cI, 6, .inl sf2)), (urs, .inl (cI, 24, .inl (nA R2))), (upr, .inl (cI, 192, .inl (nA P2))), (upd, .inl (cI, 8, .inl (nA D2)))] sz) := by
  refine Met.ofW (cc := cX4_image) (maxL := 1) (ret := (some .int)) (by decide) rfl ?_
  intro p e s m args below meth c s₁ B hml hv
  obtain ⟨rfl, hsz, hP, hKK, hD0⟩ := hv
  have hK := hKK.1
  have hx := B.exec
  have hb := B.bytes
  have hr := B.returns
  have hts := atoms_spec (ws := wsX4_image) B.pre
  have hown : s.vm.findClass RX4 = some m.cls := findClass_of_methodNamed B.named
  have hlocks := B.notSynchronized
  subst hsz
  have hD := hD0.self (sz := s.heap.size)
  generalize hAe : va_A [(x0, .inr (4, [.ref t0, .ref b0, .ref k0, .int (bi im), .ref sa])), (b0, .inr (0, [.ref h3, .ref hrs, .int (nI dr), .int (nI kn), .int (nI nx), .ref hpr, .ref hpd])), (h3, .inr (3, [.int (nI n), .int (nI h), .int (nI rg), .int (nI sp), .ref hk, .ref hw, .ref hs])), (hk, .inl (cI, 6, .inl kf)), (hw, .inl (cI, 6, .inl wf)), (hs, .inl (cI, 6, .inl sf)), (hrs, .inl (cI, 24, .inl (nA Rr))), (hpr, .inl (cI, 192, .inl (nA Pr))), (hpd, .inl (cI, 8, .inl (nA Pd))), (k0, .inr (0, [.ref u3, .ref urs, .int (nI dr2), .int (nI kn2), .int (nI nx2), .ref upr, .ref upd])), (u3, .inr (3, [.int (nI n2), .int (nI h2), .int (nI rg2), .int (nI sp2), .ref uk, .ref uw, .ref us])), (uk, .inl (cI, 6, .inl kf2)), (uw, .inl (cI, 6, .inl wf2)), (us, .inl (cI, 6, .inl sf2)), (urs, .inl (cI, 24, .inl (nA R2))), (upr, .inl (cI, 192, .inl (nA P2))), (upd, .inl (cI, 8, .inl (nA D2)))] s.heap.size = A at hD ⊢
  have hA : ∀ q : Nat, s.heap.size ≤ q → A q := fun q h => by rw [← hAe]; exact Or.inr h
  have hS : va_S A s.heap s.heap [] := va_S.rf
  have hP : va_P (dC, dI) vwCl [(x0, .inr (4, [.ref t0, .ref b0, .ref k0, .int (bi im), .ref sa])), (b0, .inr (0, [.ref h3, .ref hrs, .int (nI dr), .int (nI kn), .int (nI nx), .ref hpr, .ref hpd])), (h3, .inr (3, [.int (nI n), .int (nI h), .int (nI rg), .int (nI sp), .ref hk, .ref hw, .ref hs])), (hk, .inl (cI, 6, .inl kf)), (hw, .inl (cI, 6, .inl wf)), (hs, .inl (cI, 6, .inl sf)), (hrs, .inl (cI, 24, .inl (nA Rr))), (hpr, .inl (cI, 192, .inl (nA Pr))), (hpd, .inl (cI, 8, .inl (nA Pd))), (k0, .inr (0, [.ref u3, .ref urs, .int (nI dr2), .int (nI kn2), .int (nI nx2), .ref upr, .ref upd])), (u3, .inr (3, [.int (nI n2), .int (nI h2), .int (nI rg2), .int (nI sp2), .ref uk, .ref uw, .ref us])), (uk, .inl (cI, 6, .inl kf2)), (uw, .inl (cI, 6, .inl wf2)), (us, .inl (cI, 6, .inl sf2)), (urs, .inl (cI, 24, .inl (nA R2))), (upr, .inl (cI, 192, .inl (nA P2))), (upd, .inl (cI, 8, .inl (nA D2)))] s.heap := hP
  have hiX4 : ∀ w ∈ wsX40, w ∈ wsX4_image := by decide +kernel
  have hl := lv_entry ([.ref x0]) (n := 1) (Nat.le_of_ble_eq_true rfl)
  rw [lg_entry_eq]
  generalize (lg_sl ([.ref x0]) ++ List.replicate (1 - (lg_sl ([.ref x0])).length) Slot.unset).toArray = ls at hl ⊢
  have hl : lv_has ls 1 [(0, .ref x0)] := hl
  refine lv_aload_n hx hb dX4_image_0 rfl (lv_at hl 0 rfl) ?_
  refine va_get (D := (dC, dI)) (ci := 4) (v := .ref k0) (C := RX4) (T := TX4) (N := 5) hx hb hts hiX4 hown hK hP 0 rfl rfl 2 (by decide) (hts (.fieldLink RX4 23 "RestRegisters" "kept" "LRestRegisters$Bank;") (by decide +kernel)) (fun _ h9 => h9) rfl dX4_image_1 ?_
  refine lv_aload_n hx hb dX4_image_4 rfl (lv_at hl 0 rfl) ?_
  refine va_get (D := (dC, dI)) (ci := 4) (v := .ref b0) (C := RX4) (T := TX4) (N := 5) hx hb hts hiX4 hown hK hP 0 rfl rfl 1 (by decide) (hts (.fieldLink RX4 19 "RestRegisters" "now" "LRestRegisters$Bank;") (by decide +kernel)) (fun _ h9 => h9) rfl dX4_image_5 ?_
  refine rw_callv (va_runV (As := [.ref b0]) (rest := []) ⟨hx, hb, hml, hown, hts⟩ (c_X0_becomeLike l dC dI cI cJ cS _ k0 u3 uk uw us urs upr upd n2 h2 rg2 sp2 dr2 kn2 nx2 kf2 wf2 sf2 Kd Wd Sh R2 P2 D2 b0 h3 hk hw hs hrs hpr hpd n h rg sp dr kn nx kf wf sf Rr Pr Pd ) (cwV 1 hts gX4_image_X0_becomeLike rfl rfl rfl (by decide +kernel) ⟨Nat.le_of_ble_eq_true rfl, Nat.le_of_ble_eq_true rfl⟩) (rw_preV hKK (hP.sub [9, 10, 11, 12, 13, 14, 15, 16, 1, 2, 3, 4, 5, 6, 7, 8] rfl) (hD.sub [9, 10, 11, 12, 13, 14, 15, 16, 1, 2, 3, 4, 5, 6, 7, 8] (by decide) rfl) rfl rfl) rfl rfl hl.1 rfl (lv_room (Nat.le_of_ble_eq_true rfl)) dX4_image_8 ⟨Nat.zero_le _, Nat.zero_le _⟩) (wr := [(x0, .inr (4, [.ref t0, .ref b0, .ref k0, .int (bi im), .ref sa]))]) hP hD hS hA [9, 10, 11, 12, 13, 14, 15, 16, 1, 2, 3, 4, 5, 6, 7, 8] [0] rfl rfl (by decide) (by decide) (fun H locs hP hD hS => ?_)
  have hP : va_P (dC, dI) vwCl [(x0, .inr (4, [.ref t0, .ref b0, .ref k0, .int (bi im), .ref sa])), (b0, .inr (0, [.ref h3, .ref hrs, .int (nI dr), .int (nI kn), .int (nI nx), .ref hpr, .ref hpd])), (h3, .inr (3, [.int (nI n), .int (nI h), .int (nI rg), .int (nI sp), .ref hk, .ref hw, .ref hs])), (hk, .inl (cI, 6, .inl kf)), (hw, .inl (cI, 6, .inl wf)), (hs, .inl (cI, 6, .inl sf)), (hrs, .inl (cI, 24, .inl (nA Rr))), (hpr, .inl (cI, 192, .inl (nA Pr))), (hpd, .inl (cI, 8, .inl (nA Pd))), (k0, .inr (0, [.ref u3, .ref urs, .int (nI dr), .int (nI kn), .int (nI nx), .ref upr, .ref upd])), (u3, .inr (3, [.int (nI n), .int (nI h), .int (nI rg), .int (nI sp), .ref uk, .ref uw, .ref us])), (uk, .inl (cI, 6, .inl (va_cpy kf kf2 0 0 6))), (uw, .inl (cI, 6, .inl (va_cpy wf wf2 0 0 6))), (us, .inl (cI, 6, .inl (va_cpy sf sf2 0 0 6))), (urs, .inl (cI, 24, .inl (nA (cpN Rr R2 0 0 24)))), (upr, .inl (cI, 192, .inl (nA (cpN Pr P2 0 0 192)))), (upd, .inl (cI, 8, .inl (nA (cpN Pd D2 0 0 8))))] H := hP.sub [0, 9, 10, 11, 12, 13, 14, 15, 16, 1, 2, 3, 4, 5, 6, 7, 8] rfl
  have hD : va_D A [(x0, .inr (4, [.ref t0, .ref b0, .ref k0, .int (bi im), .ref sa])), (b0, .inr (0, [.ref h3, .ref hrs, .int (nI dr), .int (nI kn), .int (nI nx), .ref hpr, .ref hpd])), (h3, .inr (3, [.int (nI n), .int (nI h), .int (nI rg), .int (nI sp), .ref hk, .ref hw, .ref hs])), (hk, .inl (cI, 6, .inl kf)), (hw, .inl (cI, 6, .inl wf)), (hs, .inl (cI, 6, .inl sf)), (hrs, .inl (cI, 24, .inl (nA Rr))), (hpr, .inl (cI, 192, .inl (nA Pr))), (hpd, .inl (cI, 8, .inl (nA Pd))), (k0, .inr (0, [.ref u3, .ref urs, .int (nI dr), .int (nI kn), .int (nI nx), .ref upr, .ref upd])), (u3, .inr (3, [.int (nI n), .int (nI h), .int (nI rg), .int (nI sp), .ref uk, .ref uw, .ref us])), (uk, .inl (cI, 6, .inl (va_cpy kf kf2 0 0 6))), (uw, .inl (cI, 6, .inl (va_cpy wf wf2 0 0 6))), (us, .inl (cI, 6, .inl (va_cpy sf sf2 0 0 6))), (urs, .inl (cI, 24, .inl (nA (cpN Rr R2 0 0 24)))), (upr, .inl (cI, 192, .inl (nA (cpN Pr P2 0 0 192)))), (upd, .inl (cI, 8, .inl (nA (cpN Pd D2 0 0 8))))] := hD.sub [0, 9, 10, 11, 12, 13, 14, 15, 16, 1, 2, 3, 4, 5, 6, 7, 8] (by decide) rfl
  refine lv_aload_n hx hb dX4_image_11 rfl (lv_at hl 0 rfl) ?_
  refine lv_iconst (v := (nI 1)) hx hb dX4_image_12 (by decide) ?_
  refine va_put (D := (dC, dI)) (ci := 4) (v := .int (nI 1)) (ty := .boolean) (C := RX4) (T := TX4) (N := 5) hx hb hts hiX4 tyX4 tyX4_ok nmX4 hown hK hP hD hS 0 rfl rfl 3 (by decide) (hts (.fieldLink RX4 197 "RestRegisters" "hasImage" "Z") (by decide +kernel)) (fun _ h9 => h9) rfl (by decide +kernel) rfl rfl (Nat.le_of_ble_eq_true rfl) dX4_image_13 (fun H locs hP hD hS => ?_)
  have hP : va_P (dC, dI) vwCl [(x0, .inr (4, [.ref t0, .ref b0, .ref k0, .int (nI 1), .ref sa])), (b0, .inr (0, [.ref h3, .ref hrs, .int (nI dr), .int (nI kn), .int (nI nx), .ref hpr, .ref hpd])), (h3, .inr (3, [.int (nI n), .int (nI h), .int (nI rg), .int (nI sp), .ref hk, .ref hw, .ref hs])), (hk, .inl (cI, 6, .inl kf)), (hw, .inl (cI, 6, .inl wf)), (hs, .inl (cI, 6, .inl sf)), (hrs, .inl (cI, 24, .inl (nA Rr))), (hpr, .inl (cI, 192, .inl (nA Pr))), (hpd, .inl (cI, 8, .inl (nA Pd))), (k0, .inr (0, [.ref u3, .ref urs, .int (nI dr), .int (nI kn), .int (nI nx), .ref upr, .ref upd])), (u3, .inr (3, [.int (nI n), .int (nI h), .int (nI rg), .int (nI sp), .ref uk, .ref uw, .ref us])), (uk, .inl (cI, 6, .inl (va_cpy kf kf2 0 0 6))), (uw, .inl (cI, 6, .inl (va_cpy wf wf2 0 0 6))), (us, .inl (cI, 6, .inl (va_cpy sf sf2 0 0 6))), (urs, .inl (cI, 24, .inl (nA (cpN Rr R2 0 0 24)))), (upr, .inl (cI, 192, .inl (nA (cpN Pr P2 0 0 192)))), (upd, .inl (cI, 8, .inl (nA (cpN Pd D2 0 0 8))))] H := hP
  have hD : va_D A [(x0, .inr (4, [.ref t0, .ref b0, .ref k0, .int (nI 1), .ref sa])), (b0, .inr (0, [.ref h3, .ref hrs, .int (nI dr), .int (nI kn), .int (nI nx), .ref hpr, .ref hpd])), (h3, .inr (3, [.int (nI n), .int (nI h), .int (nI rg), .int (nI sp), .ref hk, .ref hw, .ref hs])), (hk, .inl (cI, 6, .inl kf)), (hw, .inl (cI, 6, .inl wf)), (hs, .inl (cI, 6, .inl sf)), (hrs, .inl (cI, 24, .inl (nA Rr))), (hpr, .inl (cI, 192, .inl (nA Pr))), (hpd, .inl (cI, 8, .inl (nA Pd))), (k0, .inr (0, [.ref u3, .ref urs, .int (nI dr), .int (nI kn), .int (nI nx), .ref upr, .ref upd])), (u3, .inr (3, [.int (nI n), .int (nI h), .int (nI rg), .int (nI sp), .ref uk, .ref uw, .ref us])), (uk, .inl (cI, 6, .inl (va_cpy kf kf2 0 0 6))), (uw, .inl (cI, 6, .inl (va_cpy wf wf2 0 0 6))), (us, .inl (cI, 6, .inl (va_cpy sf sf2 0 0 6))), (urs, .inl (cI, 24, .inl (nA (cpN Rr R2 0 0 24)))), (upr, .inl (cI, 192, .inl (nA (cpN Pr P2 0 0 192)))), (upd, .inl (cI, 8, .inl (nA (cpN Pd D2 0 0 8))))] := hD
  refine lv_iconst (v := (nI 1)) hx hb dX4_image_16 (by decide) ?_
  exact rr_iretW hx hb hr hlocks dX4_image_17 hP hD hS (rfl)
set_option maxHeartbeats 4000000 in
set_option maxRecDepth 100000 in
theorem c_X4_restore_1 (l : Launch) (dC : Nat → ClassId) (dI : Nat → Nat → Nat) (cI cJ cS : ClassId) (sz : Nat) (x0 t0 k0 sa : Nat) (im : Bool) (b0 h3 hk hw hs hrs hpr hpd : Nat) (n h rg sp dr kn nx : Nat) (kf wf sf : Nat → Int32) (Kd Wd Sh Rr Pr Pd : Nat → Nat) (u3 uk uw us urs upr upd : Nat) (n2 h2 rg2 sp2 dr2 kn2 nx2 : Nat) (kf2 wf2 sf2 : Nat → Int32) (R2 P2 D2 : Nat → Nat) (him : im = true) : Met l yX4_restore wsX4_restore ({ frames := 3, cells := 0, slots := 0, locals := 102 }) (va_Pc [.ref x0] (rW (dC, dI) vwCl [(x0, .inr (4, [.ref t0, .ref b0, .ref k0, .int (bi im), .ref sa])), (b0, .inr (0, [.ref h3, .ref hrs, .int (nI dr), .int (nI kn), .int (nI nx), .ref hpr, .ref hpd])), (h3, .inr (3, [.int (nI n), .int (nI h), .int (nI rg), .int (nI sp), .ref hk, .ref hw, .ref hs])), (hk, .inl (cI, 6, .inl kf)), (hw, .inl (cI, 6, .inl wf)), (hs, .inl (cI, 6, .inl sf)), (hrs, .inl (cI, 24, .inl (nA Rr))), (hpr, .inl (cI, 192, .inl (nA Pr))), (hpd, .inl (cI, 8, .inl (nA Pd))), (k0, .inr (0, [.ref u3, .ref urs, .int (nI dr2), .int (nI kn2), .int (nI nx2), .ref upr, .ref upd])), (u3, .inr (3, [.int (nI n2), .int (nI h2), .int (nI rg2), .int (nI sp2), .ref uk, .ref uw, .ref us])), (uk, .inl (cI, 6, .inl kf2)), (uw, .inl (cI, 6, .inl wf2)), (us, .inl (cI, 6, .inl sf2)), (urs, .inl (cI, 24, .inl (nA R2))), (upr, .inl (cI, 192, .inl (nA P2))), (upd, .inl (cI, 8, .inl (nA D2)))] (tyz cI cJ cS) sz)) (qI (nI 1) (dC, dI) vwCl [(x0, .inr (4, [.ref t0, .ref b0, .ref k0, .int (bi im), .ref sa])), (b0, .inr (0, [.ref h3, .ref hrs, .int (nI dr2), .int (nI kn2), .int (nI nx2), .ref hpr, .ref hpd])), (h3, .inr (3, [.int (nI n2), .int (nI h2), .int (nI rg2), .int (nI sp2), .ref hk, .ref hw, .ref hs])), (hk, .inl (cI, 6, .inl (va_cpy kf2 kf 0 0 6))), (hw, .inl (cI, 6, .inl (va_cpy wf2 wf 0 0 6))), (hs, .inl (cI, 6, .inl (va_cpy sf2 sf 0 0 6))), (hrs, .inl (cI, 24, .inl (nA (cpN R2 Rr 0 0 24)))), (hpr, .inl (cI, 192, .inl (nA (cpN P2 Pr 0 0 192)))), (hpd, .inl (cI, 8, .inl (nA (cpN D2 Pd 0 0 8)))), (k0, .inr (0, [.ref u3, .ref urs, .int (nI dr2), .int (nI kn2), .int (nI nx2), .ref upr, .ref upd])), (u3, .inr (3, [.int (nI n2), .int (nI h2), .int (nI rg2), .int (nI sp2), .ref uk, .ref uw, .ref us])), (uk, .inl (cI, 6, .inl kf2)), (uw, .inl (cI, 6, .inl wf2)), (us, .inl (cI, 6, .inl sf2)), (urs, .inl (cI, 24, .inl (nA R2))), (upr, .inl (cI, 192, .inl (nA P2))), (upd, .inl (cI, 8, .inl (nA D2)))] (va_A [(x0, .inr (4, [.ref t0, .ref b0, .ref k0, .int (bi im), .ref sa])), (b0, .inr (0, [.ref h3, .ref hrs, .int (nI dr), .int (nI kn), .int (nI nx), .ref hpr, .ref hpd])), (h3, .inr (3, [.int (nI n), .int (nI h), .int (nI rg), .int (nI sp), .ref hk, .ref hw, .ref hs])), (hk, .inl (cI, 6, .inl kf)), (hw, .inl (cI, 6, .inl wf)), (hs, .inl (cI, 6, .inl sf)), (hrs, .inl (cI, 24, .inl (nA Rr))), (hpr, .inl (cI, 192, .inl (nA Pr))), (hpd, .inl (cI, 8, .inl (nA Pd))), (k0, .inr (0, [.ref u3, .ref urs, .int (nI dr2), .int (nI kn2), .int (nI nx2), .ref upr, .ref upd])), (u3, .inr (3, [.int (nI n2), .int (nI h2), .int (nI rg2), .int (nI sp2), .ref uk, .ref uw, .ref us])), (uk, .inl (cI, 6, .inl kf2)), (uw, .inl (cI, 6, .inl wf2)), (us, .inl (cI, 6, .inl sf2)), (urs, .inl (cI, 24, .inl (nA R2))), (upr, .inl (cI, 192, .inl (nA P2))), (upd, .inl (cI, 8, .inl (nA D2)))] sz)) 0 0 (va_A [(x0, .inr (4, [.ref t0, .ref b0, .ref k0, .int (bi im), .ref sa])), (b0, .inr (0, [.ref h3, .ref hrs, .int (nI dr), .int (nI kn), .int (nI nx), .ref hpr, .ref hpd])), (h3, .inr (3, [.int (nI n), .int (nI h), .int (nI rg), .int (nI sp), .ref hk, .ref hw, .ref hs])), (hk, .inl (cI, 6, .inl kf)), (hw, .inl (cI, 6, .inl wf)), (hs, .inl (cI, 6, .inl sf)), (hrs, .inl (cI, 24, .inl (nA Rr))), (hpr, .inl (cI, 192, .inl (nA Pr))), (hpd, .inl (cI, 8, .inl (nA Pd))), (k0, .inr (0, [.ref u3, .ref urs, .int (nI dr2), .int (nI kn2), .int (nI nx2), .ref upr, .ref upd])), (u3, .inr (3, [.int (nI n2), .int (nI h2), .int (nI rg2), .int (nI sp2), .ref uk, .ref uw, .ref us])), (uk, .inl (cI, 6, .inl kf2)), (uw, .inl (cI, 6, .inl wf2)), (us, .inl (cI, 6, .inl sf2)), (urs, .inl (cI, 24, .inl (nA R2))), (upr, .inl (cI, 192, .inl (nA P2))), (upd, .inl (cI, 8, .inl (nA D2)))] sz) := by
  refine Met.ofW (cc := cX4_restore) (maxL := 1) (ret := (some .int)) (by decide) rfl ?_
  intro p e s m args below meth c s₁ B hml hv
  obtain ⟨rfl, hsz, hP, hKK, hD0⟩ := hv
  have hK := hKK.1
  have hx := B.exec
  have hb := B.bytes
  have hr := B.returns
  have hts := atoms_spec (ws := wsX4_restore) B.pre
  have hown : s.vm.findClass RX4 = some m.cls := findClass_of_methodNamed B.named
  have hlocks := B.notSynchronized
  subst hsz
  have hD := hD0.self (sz := s.heap.size)
  generalize hAe : va_A [(x0, .inr (4, [.ref t0, .ref b0, .ref k0, .int (bi im), .ref sa])), (b0, .inr (0, [.ref h3, .ref hrs, .int (nI dr), .int (nI kn), .int (nI nx), .ref hpr, .ref hpd])), (h3, .inr (3, [.int (nI n), .int (nI h), .int (nI rg), .int (nI sp), .ref hk, .ref hw, .ref hs])), (hk, .inl (cI, 6, .inl kf)), (hw, .inl (cI, 6, .inl wf)), (hs, .inl (cI, 6, .inl sf)), (hrs, .inl (cI, 24, .inl (nA Rr))), (hpr, .inl (cI, 192, .inl (nA Pr))), (hpd, .inl (cI, 8, .inl (nA Pd))), (k0, .inr (0, [.ref u3, .ref urs, .int (nI dr2), .int (nI kn2), .int (nI nx2), .ref upr, .ref upd])), (u3, .inr (3, [.int (nI n2), .int (nI h2), .int (nI rg2), .int (nI sp2), .ref uk, .ref uw, .ref us])), (uk, .inl (cI, 6, .inl kf2)), (uw, .inl (cI, 6, .inl wf2)), (us, .inl (cI, 6, .inl sf2)), (urs, .inl (cI, 24, .inl (nA R2))), (upr, .inl (cI, 192, .inl (nA P2))), (upd, .inl (cI, 8, .inl (nA D2)))] s.heap.size = A at hD ⊢
  have hA : ∀ q : Nat, s.heap.size ≤ q → A q := fun q h => by rw [← hAe]; exact Or.inr h
  have hS : va_S A s.heap s.heap [] := va_S.rf
  have hP : va_P (dC, dI) vwCl [(x0, .inr (4, [.ref t0, .ref b0, .ref k0, .int (bi im), .ref sa])), (b0, .inr (0, [.ref h3, .ref hrs, .int (nI dr), .int (nI kn), .int (nI nx), .ref hpr, .ref hpd])), (h3, .inr (3, [.int (nI n), .int (nI h), .int (nI rg), .int (nI sp), .ref hk, .ref hw, .ref hs])), (hk, .inl (cI, 6, .inl kf)), (hw, .inl (cI, 6, .inl wf)), (hs, .inl (cI, 6, .inl sf)), (hrs, .inl (cI, 24, .inl (nA Rr))), (hpr, .inl (cI, 192, .inl (nA Pr))), (hpd, .inl (cI, 8, .inl (nA Pd))), (k0, .inr (0, [.ref u3, .ref urs, .int (nI dr2), .int (nI kn2), .int (nI nx2), .ref upr, .ref upd])), (u3, .inr (3, [.int (nI n2), .int (nI h2), .int (nI rg2), .int (nI sp2), .ref uk, .ref uw, .ref us])), (uk, .inl (cI, 6, .inl kf2)), (uw, .inl (cI, 6, .inl wf2)), (us, .inl (cI, 6, .inl sf2)), (urs, .inl (cI, 24, .inl (nA R2))), (upr, .inl (cI, 192, .inl (nA P2))), (upd, .inl (cI, 8, .inl (nA D2)))] s.heap := hP
  have hiX4 : ∀ w ∈ wsX40, w ∈ wsX4_restore := by decide +kernel
  have hl := lv_entry ([.ref x0]) (n := 1) (Nat.le_of_ble_eq_true rfl)
  rw [lg_entry_eq]
  generalize (lg_sl ([.ref x0]) ++ List.replicate (1 - (lg_sl ([.ref x0])).length) Slot.unset).toArray = ls at hl ⊢
  have hl : lv_has ls 1 [(0, .ref x0)] := hl
  refine lv_aload_n hx hb dX4_restore_0 rfl (lv_at hl 0 rfl) ?_
  refine va_get (D := (dC, dI)) (ci := 4) (v := .int (bi im)) (C := RX4) (T := TX4) (N := 5) hx hb hts hiX4 hown hK hP 0 rfl rfl 3 (by decide) (hts (.fieldLink RX4 197 "RestRegisters" "hasImage" "Z") (by decide +kernel)) (fun _ h9 => h9) rfl dX4_restore_1 ?_
  refine rb_if_ne (tgt := 10) hx hb dX4_restore_4 (by decide) (fun c4 => ?_) (fun c4 => ?_)
  · skip
    refine lv_aload_n hx hb dX4_restore_10 rfl (lv_at hl 0 rfl) ?_
    refine va_get (D := (dC, dI)) (ci := 4) (v := .ref b0) (C := RX4) (T := TX4) (N := 5) hx hb hts hiX4 hown hK hP 0 rfl rfl 1 (by decide) (hts (.fieldLink RX4 19 "RestRegisters" "now" "LRestRegisters$Bank;") (by decide +kernel)) (fun _ h9 => h9) rfl dX4_restore_11 ?_
    refine lv_aload_n hx hb dX4_restore_14 rfl (lv_at hl 0 rfl) ?_
    refine va_get (D := (dC, dI)) (ci := 4) (v := .ref k0) (C := RX4) (T := TX4) (N := 5) hx hb hts hiX4 hown hK hP 0 rfl rfl 2 (by decide) (hts (.fieldLink RX4 23 "RestRegisters" "kept" "LRestRegisters$Bank;") (by decide +kernel)) (fun _ h9 => h9) rfl dX4_restore_15 ?_
    refine rw_callv (va_runV (As := [.ref k0]) (rest := []) ⟨hx, hb, hml, hown, hts⟩ (c_X0_becomeLike l dC dI cI cJ cS _ b0 h3 hk hw hs hrs hpr hpd n h rg sp dr kn nx kf wf sf Kd Wd Sh Rr Pr Pd k0 u3 uk uw us urs upr upd n2 h2 rg2 sp2 dr2 kn2 nx2 kf2 wf2 sf2 R2 P2 D2 ) (cwV 1 hts gX4_restore_X0_becomeLike rfl rfl rfl (by decide +kernel) ⟨Nat.le_of_ble_eq_true rfl, Nat.le_of_ble_eq_true rfl⟩) (rw_preV hKK (hP.sub [1, 2, 3, 4, 5, 6, 7, 8, 9, 10, 11, 12, 13, 14, 15, 16] rfl) (hD.sub [1, 2, 3, 4, 5, 6, 7, 8, 9, 10, 11, 12, 13, 14, 15, 16] (by decide) rfl) rfl rfl) rfl rfl hl.1 rfl (lv_room (Nat.le_of_ble_eq_true rfl)) dX4_restore_18 ⟨Nat.zero_le _, Nat.zero_le _⟩) (wr := [(x0, .inr (4, [.ref t0, .ref b0, .ref k0, .int (bi im), .ref sa]))]) hP hD hS hA [1, 2, 3, 4, 5, 6, 7, 8, 9, 10, 11, 12, 13, 14, 15, 16] [0] rfl rfl (by decide) (by decide) (fun H locs hP hD hS => ?_)
    have hP : va_P (dC, dI) vwCl [(x0, .inr (4, [.ref t0, .ref b0, .ref k0, .int (bi im), .ref sa])), (b0, .inr (0, [.ref h3, .ref hrs, .int (nI dr2), .int (nI kn2), .int (nI nx2), .ref hpr, .ref hpd])), (h3, .inr (3, [.int (nI n2), .int (nI h2), .int (nI rg2), .int (nI sp2), .ref hk, .ref hw, .ref hs])), (hk, .inl (cI, 6, .inl (va_cpy kf2 kf 0 0 6))), (hw, .inl (cI, 6, .inl (va_cpy wf2 wf 0 0 6))), (hs, .inl (cI, 6, .inl (va_cpy sf2 sf 0 0 6))), (hrs, .inl (cI, 24, .inl (nA (cpN R2 Rr 0 0 24)))), (hpr, .inl (cI, 192, .inl (nA (cpN P2 Pr 0 0 192)))), (hpd, .inl (cI, 8, .inl (nA (cpN D2 Pd 0 0 8)))), (k0, .inr (0, [.ref u3, .ref urs, .int (nI dr2), .int (nI kn2), .int (nI nx2), .ref upr, .ref upd])), (u3, .inr (3, [.int (nI n2), .int (nI h2), .int (nI rg2), .int (nI sp2), .ref uk, .ref uw, .ref us])), (uk, .inl (cI, 6, .inl kf2)), (uw, .inl (cI, 6, .inl wf2)), (us, .inl (cI, 6, .inl sf2)), (urs, .inl (cI, 24, .inl (nA R2))), (upr, .inl (cI, 192, .inl (nA P2))), (upd, .inl (cI, 8, .inl (nA D2)))] H := hP.sub [0, 1, 2, 3, 4, 5, 6, 7, 8, 9, 10, 11, 12, 13, 14, 15, 16] rfl
    have hD : va_D A [(x0, .inr (4, [.ref t0, .ref b0, .ref k0, .int (bi im), .ref sa])), (b0, .inr (0, [.ref h3, .ref hrs, .int (nI dr2), .int (nI kn2), .int (nI nx2), .ref hpr, .ref hpd])), (h3, .inr (3, [.int (nI n2), .int (nI h2), .int (nI rg2), .int (nI sp2), .ref hk, .ref hw, .ref hs])), (hk, .inl (cI, 6, .inl (va_cpy kf2 kf 0 0 6))), (hw, .inl (cI, 6, .inl (va_cpy wf2 wf 0 0 6))), (hs, .inl (cI, 6, .inl (va_cpy sf2 sf 0 0 6))), (hrs, .inl (cI, 24, .inl (nA (cpN R2 Rr 0 0 24)))), (hpr, .inl (cI, 192, .inl (nA (cpN P2 Pr 0 0 192)))), (hpd, .inl (cI, 8, .inl (nA (cpN D2 Pd 0 0 8)))), (k0, .inr (0, [.ref u3, .ref urs, .int (nI dr2), .int (nI kn2), .int (nI nx2), .ref upr, .ref upd])), (u3, .inr (3, [.int (nI n2), .int (nI h2), .int (nI rg2), .int (nI sp2), .ref uk, .ref uw, .ref us])), (uk, .inl (cI, 6, .inl kf2)), (uw, .inl (cI, 6, .inl wf2)), (us, .inl (cI, 6, .inl sf2)), (urs, .inl (cI, 24, .inl (nA R2))), (upr, .inl (cI, 192, .inl (nA P2))), (upd, .inl (cI, 8, .inl (nA D2)))] := hD.sub [0, 1, 2, 3, 4, 5, 6, 7, 8, 9, 10, 11, 12, 13, 14, 15, 16] (by decide) rfl
    refine lv_iconst (v := (nI 1)) hx hb dX4_restore_21 (by decide) ?_
    exact rr_iretW hx hb hr hlocks dX4_restore_22 hP hD hS (rfl)
  exact absurd (c4.symm.trans him) (by decide)
set_option maxHeartbeats 4000000 in
set_option maxRecDepth 100000 in
theorem c_X4_restore_0 (l : Launch) (dC : Nat → ClassId) (dI : Nat → Nat → Nat) (cI cJ cS : ClassId) (x0 t0 k0 sa : Nat) (im : Bool) (b0 h3 hk hw hs hrs hpr hpd : Nat) (n h rg sp dr kn nx : Nat) (kf wf sf : Nat → Int32) (Kd Wd Sh Rr Pr Pd : Nat → Nat) (him : im = false) : Met l yX4_restore wsX4_restore ({ frames := 3, cells := 0, slots := 0, locals := 102 }) (va_Pc [.ref x0] (rB (dC, dI) vwCl [(x0, .inr (4, [.ref t0, .ref b0, .ref k0, .int (bi im), .ref sa])), (b0, .inr (0, [.ref h3, .ref hrs, .int (nI dr), .int (nI kn), .int (nI nx), .ref hpr, .ref hpd])), (h3, .inr (3, [.int (nI n), .int (nI h), .int (nI rg), .int (nI sp), .ref hk, .ref hw, .ref hs])), (hk, .inl (cI, 6, .inl kf)), (hw, .inl (cI, 6, .inl wf)), (hs, .inl (cI, 6, .inl sf)), (hrs, .inl (cI, 24, .inl (nA Rr))), (hpr, .inl (cI, 192, .inl (nA Pr))), (hpd, .inl (cI, 8, .inl (nA Pd)))] (tyz cI cJ cS))) (QcRead (-4)) 0 0 (fun _ => False) := by
  refine Met.ofW (cc := cX4_restore) (maxL := 1) (ret := (some .int)) (by decide) rfl ?_
  intro p e s m args below meth c s₁ B hml hv
  obtain ⟨rfl, hP, hKK⟩ := hv
  have hK := hKK.1
  have hx := B.exec
  have hb := B.bytes
  have hr := B.returns
  have hts := atoms_spec (ws := wsX4_restore) B.pre
  have hown : s.vm.findClass RX4 = some m.cls := findClass_of_methodNamed B.named
  have hlocks := B.notSynchronized
  have hiX4 : ∀ w ∈ wsX40, w ∈ wsX4_restore := by decide +kernel
  have hl := lv_entry ([.ref x0]) (n := 1) (Nat.le_of_ble_eq_true rfl)
  rw [lg_entry_eq]
  generalize (lg_sl ([.ref x0]) ++ List.replicate (1 - (lg_sl ([.ref x0])).length) Slot.unset).toArray = ls at hl ⊢
  have hl : lv_has ls 1 [(0, .ref x0)] := hl
  refine lv_aload_n hx hb dX4_restore_0 rfl (lv_at hl 0 rfl) ?_
  refine va_get (D := (dC, dI)) (ci := 4) (v := .int (bi im)) (C := RX4) (T := TX4) (N := 5) hx hb hts hiX4 hown hK hP 0 rfl rfl 3 (by decide) (hts (.fieldLink RX4 197 "RestRegisters" "hasImage" "Z") (by decide +kernel)) (fun _ h9 => h9) rfl dX4_restore_1 ?_
  refine rb_if_ne (tgt := 10) hx hb dX4_restore_4 (by decide) (fun c4 => ?_) (fun c4 => ?_)
  · skip
    exact absurd (c4.symm.trans him) (by decide)
  refine lv_bipush (v := (-4)) hx hb dX4_restore_7 (by decide) ?_
  exact rr_iret hx hb hr hlocks dX4_restore_9 (rfl)
set_option maxHeartbeats 4000000 in
set_option maxRecDepth 100000 in
theorem c_X2_isFull (l : Launch) (dC : Nat → ClassId) (dI : Nat → Nat → Nat) (cI cJ cS : ClassId) (t0 ta q3 : Nat) (tn tp : Nat) (Tp : Nat → Nat) (htn : tn ≤ 40) : Met l yX2_isFull wsX2_isFull ({ frames := 0, cells := 0, slots := 0, locals := 0 }) (va_Pc [.ref t0] (rB (dC, dI) vwCl [(t0, .inr (2, [.ref ta, .int (nI tn), .int (nI tp), .ref q3])), (ta, .inl (cI, 40, .inl (nA Tp)))] (tyz cI cJ cS))) (QcRead (bi (decide (40 ≤ tn)))) 0 0 (fun _ => False) := by
  refine Met.ofW (cc := cX2_isFull) (maxL := 1) (ret := (some .boolean)) (by decide) rfl ?_
  intro p e s m args below meth c s₁ B hml hv
  obtain ⟨rfl, hP, hKK⟩ := hv
  have hK := hKK.1
  have hx := B.exec
  have hb := B.bytes
  have hr := B.returns
  have hts := atoms_spec (ws := wsX2_isFull) B.pre
  have hown : s.vm.findClass RX2 = some m.cls := findClass_of_methodNamed B.named
  have hlocks := B.notSynchronized
  have hiX2 : ∀ w ∈ wsX20, w ∈ wsX2_isFull := by decide +kernel
  have hl := lv_entry ([.ref t0]) (n := 1) (Nat.le_of_ble_eq_true rfl)
  rw [lg_entry_eq]
  generalize (lg_sl ([.ref t0]) ++ List.replicate (1 - (lg_sl ([.ref t0])).length) Slot.unset).toArray = ls at hl ⊢
  have hl : lv_has ls 1 [(0, .ref t0)] := hl
  refine lv_aload_n hx hb dX2_isFull_0 rfl (lv_at hl 0 rfl) ?_
  refine va_get (D := (dC, dI)) (ci := 2) (v := .int (nI tn)) (C := RX2) (T := TX2) (N := 4) hx hb hts hiX2 hown hK hP 0 rfl rfl 1 (by decide) (hts (.fieldLink RX2 22 "RestRegisters$Tape" "length" "I") (by decide +kernel)) (fun _ h9 => h9) rfl dX2_isFull_1 ?_
  refine lv_bipush (v := (nI 40)) hx hb dX2_isFull_4 (by decide) ?_
  refine rn_icmp_lt (tgt := 13) hx hb dX2_isFull_6 (by decide) (by omega) (by omega) (fun c6 => ?_) (fun c6 => ?_)
  · skip
    refine lv_iconst (v := (nI 0)) hx hb dX2_isFull_13 (by decide) ?_
    refine rr_top (y := bi false) rfl ?_
    exact rr_zret hx hb hr hlocks dX2_isFull_14 (by first | (rw [decide_eq_true c6]; done) | (rw [decide_eq_false (Nat.not_le.mpr c6)]))
  refine lv_iconst (v := (nI 1)) hx hb dX2_isFull_9 (by decide) ?_
  refine lv_goto (tgt := 14) hx hb dX2_isFull_10 (by decide) ?_
  refine rr_top (y := bi true) rfl ?_
  exact rr_zret hx hb hr hlocks dX2_isFull_14 (by first | (rw [decide_eq_true c6]; done) | (rw [decide_eq_false (Nat.not_le.mpr c6)]))
set_option maxHeartbeats 4000000 in
set_option maxRecDepth 100000 in
theorem c_X2_append (l : Launch) (dC : Nat → ClassId) (dI : Nat → Nat → Nat) (cI cJ cS : ClassId) (sz : Nat) (t0 ta q3 : Nat) (tn tp : Nat) (Tp : Nat → Nat) (x : Nat) (htn : tn < 40) : Met l yX2_append wsX2_append ({ frames := 0, cells := 0, slots := 0, locals := 0 }) (va_Pc [.ref t0, .int (nI x)] (rW (dC, dI) vwCl [(t0, .inr (2, [.ref ta, .int (nI tn), .int (nI tp), .ref q3])), (ta, .inl (cI, 40, .inl (nA Tp)))] (tyz cI cJ cS) sz)) (qV (dC, dI) vwCl [(t0, .inr (2, [.ref ta, .int (nI (tn + 1)), .int (nI tp), .ref q3])), (ta, .inl (cI, 40, .inl (nA (uN Tp tn x))))] (va_A [(t0, .inr (2, [.ref ta, .int (nI tn), .int (nI tp), .ref q3])), (ta, .inl (cI, 40, .inl (nA Tp)))] sz)) 0 0 (va_A [(t0, .inr (2, [.ref ta, .int (nI tn), .int (nI tp), .ref q3])), (ta, .inl (cI, 40, .inl (nA Tp)))] sz) := by
  refine Met.ofW (cc := cX2_append) (maxL := 2) (ret := none) (by decide) rfl ?_
  intro p e s m args below meth c s₁ B hml hv
  obtain ⟨rfl, hsz, hP, hKK, hD0⟩ := hv
  have hK := hKK.1
  have hx := B.exec
  have hb := B.bytes
  have hr := B.returns
  have hts := atoms_spec (ws := wsX2_append) B.pre
  have hown : s.vm.findClass RX2 = some m.cls := findClass_of_methodNamed B.named
  have hlocks := B.notSynchronized
  subst hsz
  have hD := hD0.self (sz := s.heap.size)
  generalize hAe : va_A [(t0, .inr (2, [.ref ta, .int (nI tn), .int (nI tp), .ref q3])), (ta, .inl (cI, 40, .inl (nA Tp)))] s.heap.size = A at hD ⊢
  have hA : ∀ q : Nat, s.heap.size ≤ q → A q := fun q h => by rw [← hAe]; exact Or.inr h
  have hS : va_S A s.heap s.heap [] := va_S.rf
  have hP : va_P (dC, dI) vwCl [(t0, .inr (2, [.ref ta, .int (nI tn), .int (nI tp), .ref q3])), (ta, .inl (cI, 40, .inl (nA Tp)))] s.heap := hP
  have hiX2 : ∀ w ∈ wsX20, w ∈ wsX2_append := by decide +kernel
  have hl := lv_entry ([.ref t0, .int (nI x)]) (n := 2) (Nat.le_of_ble_eq_true rfl)
  rw [lg_entry_eq]
  generalize (lg_sl ([.ref t0, .int (nI x)]) ++ List.replicate (2 - (lg_sl ([.ref t0, .int (nI x)])).length) Slot.unset).toArray = ls at hl ⊢
  have hl : lv_has ls 2 [(0, .ref t0), (1, .int (nI x))] := hl
  refine lv_aload_n hx hb dX2_append_0 rfl (lv_at hl 0 rfl) ?_
  refine va_get (D := (dC, dI)) (ci := 2) (v := .ref ta) (C := RX2) (T := TX2) (N := 4) hx hb hts hiX2 hown hK hP 0 rfl rfl 0 (by decide) (hts (.fieldLink RX2 11 "RestRegisters$Tape" "letters" "[I") (by decide +kernel)) (fun _ h9 => h9) rfl dX2_append_1 ?_
  refine lv_aload_n hx hb dX2_append_4 rfl (lv_at hl 0 rfl) ?_
  refine va_get (D := (dC, dI)) (ci := 2) (v := .int (nI tn)) (C := RX2) (T := TX2) (N := 4) hx hb hts hiX2 hown hK hP 0 rfl rfl 1 (by decide) (hts (.fieldLink RX2 22 "RestRegisters$Tape" "length" "I") (by decide +kernel)) (fun _ h9 => h9) rfl dX2_append_5 ?_
  refine lv_iload_n hx hb dX2_append_8 rfl (lv_at hl 1 rfl) ?_
  refine rn_iast hx hb hK hP hD hS 1 0 rfl rfl (i := tn) (by omega) (by decide) (g := nA (uN Tp tn x)) (nA_upd _ _ _) dX2_append_9 (fun H locs hP hD hS => ?_)
  have hP : va_P (dC, dI) vwCl [(t0, .inr (2, [.ref ta, .int (nI tn), .int (nI tp), .ref q3])), (ta, .inl (cI, 40, .inl (nA (uN Tp tn x))))] H := hP
  have hD : va_D A [(t0, .inr (2, [.ref ta, .int (nI tn), .int (nI tp), .ref q3])), (ta, .inl (cI, 40, .inl (nA (uN Tp tn x))))] := hD
  refine lv_aload_n hx hb dX2_append_10 rfl (lv_at hl 0 rfl) ?_
  refine lv_dup hx hb dX2_append_11 rfl ?_
  refine va_get (D := (dC, dI)) (ci := 2) (v := .int (nI tn)) (C := RX2) (T := TX2) (N := 4) hx hb hts hiX2 hown hK hP 0 rfl rfl 1 (by decide) (hts (.fieldLink RX2 22 "RestRegisters$Tape" "length" "I") (by decide +kernel)) (fun _ h9 => h9) rfl dX2_append_12 ?_
  refine lv_iconst (v := (nI 1)) hx hb dX2_append_15 (by decide) ?_
  refine rn_iadd hx hb dX2_append_16 ?_
  refine va_put (D := (dC, dI)) (ci := 2) (v := .int (nI (tn + 1))) (ty := .int) (C := RX2) (T := TX2) (N := 4) hx hb hts hiX2 tyX2 tyX2_ok nmX2 hown hK hP hD hS 0 rfl rfl 1 (by decide) (hts (.fieldLink RX2 22 "RestRegisters$Tape" "length" "I") (by decide +kernel)) (fun _ h9 => h9) rfl (by decide +kernel) rfl rfl (Nat.le_of_ble_eq_true rfl) dX2_append_17 (fun H locs hP hD hS => ?_)
  have hP : va_P (dC, dI) vwCl [(t0, .inr (2, [.ref ta, .int (nI (tn + 1)), .int (nI tp), .ref q3])), (ta, .inl (cI, 40, .inl (nA (uN Tp tn x))))] H := hP
  have hD : va_D A [(t0, .inr (2, [.ref ta, .int (nI (tn + 1)), .int (nI tp), .ref q3])), (ta, .inl (cI, 40, .inl (nA (uN Tp tn x))))] := hD
  exact rr_vretW hx hb hr hlocks dX2_append_20 hP hD hS
set_option maxHeartbeats 4000000 in
set_option maxRecDepth 100000 in
theorem c_X4_type_g (l : Launch) (dC : Nat → ClassId) (dI : Nat → Nat → Nat) (cI cJ cS : ClassId) (sz : Nat) (x0 t0 b0 k0 sa : Nat) (im : Bool) (ta q3 : Nat) (tn tp : Nat) (Tp : Nat → Nat) (x : Nat) (hx1 : 32 ≤ x) (hx2 : x ≤ 126) (htn : tn < 40) : Met l yX4_type wsX4_type ({ frames := 1, cells := 0, slots := 0, locals := 21 }) (va_Pc [.ref x0, .int (nI x)] (rW (dC, dI) vwCl [(x0, .inr (4, [.ref t0, .ref b0, .ref k0, .int (bi im), .ref sa])), (t0, .inr (2, [.ref ta, .int (nI tn), .int (nI tp), .ref q3])), (ta, .inl (cI, 40, .inl (nA Tp)))] (tyz cI cJ cS) sz)) (qI (nI (tn + 1)) (dC, dI) vwCl [(x0, .inr (4, [.ref t0, .ref b0, .ref k0, .int (bi im), .ref sa])), (t0, .inr (2, [.ref ta, .int (nI (tn + 1)), .int (nI tp), .ref q3])), (ta, .inl (cI, 40, .inl (nA (uN Tp tn x))))] (va_A [(x0, .inr (4, [.ref t0, .ref b0, .ref k0, .int (bi im), .ref sa])), (t0, .inr (2, [.ref ta, .int (nI tn), .int (nI tp), .ref q3])), (ta, .inl (cI, 40, .inl (nA Tp)))] sz)) 0 0 (va_A [(x0, .inr (4, [.ref t0, .ref b0, .ref k0, .int (bi im), .ref sa])), (t0, .inr (2, [.ref ta, .int (nI tn), .int (nI tp), .ref q3])), (ta, .inl (cI, 40, .inl (nA Tp)))] sz) := by
  refine Met.ofW (cc := cX4_type) (maxL := 2) (ret := (some .int)) (by decide) rfl ?_
  intro p e s m args below meth c s₁ B hml hv
  obtain ⟨rfl, hsz, hP, hKK, hD0⟩ := hv
  have hK := hKK.1
  have hx := B.exec
  have hb := B.bytes
  have hr := B.returns
  have hts := atoms_spec (ws := wsX4_type) B.pre
  have hown : s.vm.findClass RX4 = some m.cls := findClass_of_methodNamed B.named
  have hlocks := B.notSynchronized
  subst hsz
  have hD := hD0.self (sz := s.heap.size)
  generalize hAe : va_A [(x0, .inr (4, [.ref t0, .ref b0, .ref k0, .int (bi im), .ref sa])), (t0, .inr (2, [.ref ta, .int (nI tn), .int (nI tp), .ref q3])), (ta, .inl (cI, 40, .inl (nA Tp)))] s.heap.size = A at hD ⊢
  have hA : ∀ q : Nat, s.heap.size ≤ q → A q := fun q h => by rw [← hAe]; exact Or.inr h
  have hS : va_S A s.heap s.heap [] := va_S.rf
  have hP : va_P (dC, dI) vwCl [(x0, .inr (4, [.ref t0, .ref b0, .ref k0, .int (bi im), .ref sa])), (t0, .inr (2, [.ref ta, .int (nI tn), .int (nI tp), .ref q3])), (ta, .inl (cI, 40, .inl (nA Tp)))] s.heap := hP
  have hiX2 : ∀ w ∈ wsX20, w ∈ wsX4_type := by decide +kernel
  have hiX4 : ∀ w ∈ wsX40, w ∈ wsX4_type := by decide +kernel
  have hl := lv_entry ([.ref x0, .int (nI x)]) (n := 2) (Nat.le_of_ble_eq_true rfl)
  rw [lg_entry_eq]
  generalize (lg_sl ([.ref x0, .int (nI x)]) ++ List.replicate (2 - (lg_sl ([.ref x0, .int (nI x)])).length) Slot.unset).toArray = ls at hl ⊢
  have hl : lv_has ls 2 [(0, .ref x0), (1, .int (nI x))] := hl
  refine lv_iload_n hx hb dX4_type_0 rfl (lv_at hl 1 rfl) ?_
  refine lv_bipush (v := (nI 32)) hx hb dX4_type_1 (by decide) ?_
  refine rn_icmp_lt (tgt := 12) hx hb dX4_type_3 (by decide) (by omega) (by omega) (fun c3 => ?_) (fun c3 => ?_)
  · skip
    first | exact absurd c3 (by omega) | exact absurd c9 (by omega)
  refine lv_iload_n hx hb dX4_type_6 rfl (lv_at hl 1 rfl) ?_
  refine lv_bipush (v := (nI 126)) hx hb dX4_type_7 (by decide) ?_
  refine rn_icmp_le (tgt := 14) hx hb dX4_type_9 (by decide) (by omega) (by omega) (fun c9 => ?_) (fun c9 => ?_)
  · skip
    refine lv_aload_n hx hb dX4_type_14 rfl (lv_at hl 0 rfl) ?_
    refine va_get (D := (dC, dI)) (ci := 4) (v := .ref t0) (C := RX4) (T := TX4) (N := 5) hx hb hts hiX4 hown hK hP 0 rfl rfl 0 (by decide) (hts (.fieldLink RX4 10 "RestRegisters" "tape" "LRestRegisters$Tape;") (by decide +kernel)) (fun _ h9 => h9) rfl dX4_type_15 ?_
    refine rr_callR (va_runV (As := []) (rest := []) ⟨hx, hb, hml, hown, hts⟩ (c_X2_isFull l dC dI cI cJ cS t0 ta q3 tn tp Tp (by first | assumption | omega)) (cwV 0 hts gX4_type_X2_isFull rfl rfl rfl (by decide +kernel) ⟨Nat.le_of_ble_eq_true rfl, Nat.le_of_ble_eq_true rfl⟩) (rr_preV hKK (hP.sub [1, 2] rfl) rfl rfl) rfl rfl hl.1 rfl (lv_room (Nat.le_of_ble_eq_true rfl)) dX4_type_18 ⟨Nat.zero_le _, Nat.zero_le _⟩) ?_
    refine rb_if_eq (tgt := 27) hx hb dX4_type_21 (by decide) (fun c21 => ?_) (fun c21 => ?_)
    · skip
      refine lv_aload_n hx hb dX4_type_27 rfl (lv_at hl 0 rfl) ?_
      refine va_get (D := (dC, dI)) (ci := 4) (v := .ref t0) (C := RX4) (T := TX4) (N := 5) hx hb hts hiX4 hown hK hP 0 rfl rfl 0 (by decide) (hts (.fieldLink RX4 10 "RestRegisters" "tape" "LRestRegisters$Tape;") (by decide +kernel)) (fun _ h9 => h9) rfl dX4_type_28 ?_
      refine lv_iload_n hx hb dX4_type_31 rfl (lv_at hl 1 rfl) ?_
      refine rw_callv (va_runV (As := [.int (nI x)]) (rest := []) ⟨hx, hb, hml, hown, hts⟩ (c_X2_append l dC dI cI cJ cS _ t0 ta q3 tn tp Tp x (by first | assumption | omega)) (cwV 1 hts gX4_type_X2_append rfl rfl rfl (by decide +kernel) ⟨Nat.le_of_ble_eq_true rfl, Nat.le_of_ble_eq_true rfl⟩) (rw_preV hKK (hP.sub [1, 2] rfl) (hD.sub [1, 2] (by decide) rfl) rfl rfl) rfl rfl hl.1 rfl (lv_room (Nat.le_of_ble_eq_true rfl)) dX4_type_32 ⟨Nat.zero_le _, Nat.zero_le _⟩) (wr := [(x0, .inr (4, [.ref t0, .ref b0, .ref k0, .int (bi im), .ref sa]))]) hP hD hS hA [1, 2] [0] rfl rfl (by decide) (by decide) (fun H locs hP hD hS => ?_)
      have hP : va_P (dC, dI) vwCl [(x0, .inr (4, [.ref t0, .ref b0, .ref k0, .int (bi im), .ref sa])), (t0, .inr (2, [.ref ta, .int (nI (tn + 1)), .int (nI tp), .ref q3])), (ta, .inl (cI, 40, .inl (nA (uN Tp tn x))))] H := hP.sub [0, 1, 2] rfl
      have hD : va_D A [(x0, .inr (4, [.ref t0, .ref b0, .ref k0, .int (bi im), .ref sa])), (t0, .inr (2, [.ref ta, .int (nI (tn + 1)), .int (nI tp), .ref q3])), (ta, .inl (cI, 40, .inl (nA (uN Tp tn x))))] := hD.sub [0, 1, 2] (by decide) rfl
      refine lv_aload_n hx hb dX4_type_35 rfl (lv_at hl 0 rfl) ?_
      refine va_get (D := (dC, dI)) (ci := 4) (v := .ref t0) (C := RX4) (T := TX4) (N := 5) hx hb hts hiX4 hown hK hP 0 rfl rfl 0 (by decide) (hts (.fieldLink RX4 10 "RestRegisters" "tape" "LRestRegisters$Tape;") (by decide +kernel)) (fun _ h9 => h9) rfl dX4_type_36 ?_
      refine va_get (D := (dC, dI)) (ci := 2) (v := .int (nI (tn + 1))) (C := RX2) (T := TX2) (N := 4) hx hb hts hiX2 hown hK hP 1 rfl rfl 1 (by decide) (hts (.fieldLink RX4 41 "RestRegisters$Tape" "length" "I") (by decide +kernel)) (fun _ h9 => h9) rfl dX4_type_39 ?_
      exact rr_iretW hx hb hr hlocks dX4_type_42 hP hD hS (rfl)
    exact absurd (of_decide_eq_true c21) (by omega)
  first | exact absurd c3 (by omega) | exact absurd c9 (by omega)
set_option maxHeartbeats 4000000 in
set_option maxRecDepth 100000 in
theorem c_X4_type_f (l : Launch) (dC : Nat → ClassId) (dI : Nat → Nat → Nat) (cI cJ cS : ClassId) (x0 t0 b0 k0 sa : Nat) (im : Bool) (ta q3 : Nat) (tn tp : Nat) (Tp : Nat → Nat) (x : Nat) (hx1 : 32 ≤ x) (hx2 : x ≤ 126) (htn : tn = 40) : Met l yX4_type wsX4_type ({ frames := 1, cells := 0, slots := 0, locals := 21 }) (va_Pc [.ref x0, .int (nI x)] (rB (dC, dI) vwCl [(x0, .inr (4, [.ref t0, .ref b0, .ref k0, .int (bi im), .ref sa])), (t0, .inr (2, [.ref ta, .int (nI tn), .int (nI tp), .ref q3])), (ta, .inl (cI, 40, .inl (nA Tp)))] (tyz cI cJ cS))) (QcRead (-3)) 0 0 (fun _ => False) := by
  refine Met.ofW (cc := cX4_type) (maxL := 2) (ret := (some .int)) (by decide) rfl ?_
  intro p e s m args below meth c s₁ B hml hv
  obtain ⟨rfl, hP, hKK⟩ := hv
  have hK := hKK.1
  have hx := B.exec
  have hb := B.bytes
  have hr := B.returns
  have hts := atoms_spec (ws := wsX4_type) B.pre
  have hown : s.vm.findClass RX4 = some m.cls := findClass_of_methodNamed B.named
  have hlocks := B.notSynchronized
  have hiX2 : ∀ w ∈ wsX20, w ∈ wsX4_type := by decide +kernel
  have hiX4 : ∀ w ∈ wsX40, w ∈ wsX4_type := by decide +kernel
  have hl := lv_entry ([.ref x0, .int (nI x)]) (n := 2) (Nat.le_of_ble_eq_true rfl)
  rw [lg_entry_eq]
  generalize (lg_sl ([.ref x0, .int (nI x)]) ++ List.replicate (2 - (lg_sl ([.ref x0, .int (nI x)])).length) Slot.unset).toArray = ls at hl ⊢
  have hl : lv_has ls 2 [(0, .ref x0), (1, .int (nI x))] := hl
  refine lv_iload_n hx hb dX4_type_0 rfl (lv_at hl 1 rfl) ?_
  refine lv_bipush (v := (nI 32)) hx hb dX4_type_1 (by decide) ?_
  refine rn_icmp_lt (tgt := 12) hx hb dX4_type_3 (by decide) (by omega) (by omega) (fun c3 => ?_) (fun c3 => ?_)
  · skip
    first | exact absurd c3 (by omega) | exact absurd c9 (by omega)
  refine lv_iload_n hx hb dX4_type_6 rfl (lv_at hl 1 rfl) ?_
  refine lv_bipush (v := (nI 126)) hx hb dX4_type_7 (by decide) ?_
  refine rn_icmp_le (tgt := 14) hx hb dX4_type_9 (by decide) (by omega) (by omega) (fun c9 => ?_) (fun c9 => ?_)
  · skip
    refine lv_aload_n hx hb dX4_type_14 rfl (lv_at hl 0 rfl) ?_
    refine va_get (D := (dC, dI)) (ci := 4) (v := .ref t0) (C := RX4) (T := TX4) (N := 5) hx hb hts hiX4 hown hK hP 0 rfl rfl 0 (by decide) (hts (.fieldLink RX4 10 "RestRegisters" "tape" "LRestRegisters$Tape;") (by decide +kernel)) (fun _ h9 => h9) rfl dX4_type_15 ?_
    refine rr_callR (va_runV (As := []) (rest := []) ⟨hx, hb, hml, hown, hts⟩ (c_X2_isFull l dC dI cI cJ cS t0 ta q3 tn tp Tp (by first | assumption | omega)) (cwV 0 hts gX4_type_X2_isFull rfl rfl rfl (by decide +kernel) ⟨Nat.le_of_ble_eq_true rfl, Nat.le_of_ble_eq_true rfl⟩) (rr_preV hKK (hP.sub [1, 2] rfl) rfl rfl) rfl rfl hl.1 rfl (lv_room (Nat.le_of_ble_eq_true rfl)) dX4_type_18 ⟨Nat.zero_le _, Nat.zero_le _⟩) ?_
    refine rb_if_eq (tgt := 27) hx hb dX4_type_21 (by decide) (fun c21 => ?_) (fun c21 => ?_)
    · skip
      exact absurd (of_decide_eq_false c21) (by omega)
    refine lv_bipush (v := (-3)) hx hb dX4_type_24 (by decide) ?_
    exact rr_iret hx hb hr hlocks dX4_type_26 (rfl)
  first | exact absurd c3 (by omega) | exact absurd c9 (by omega)
set_option maxHeartbeats 4000000 in
set_option maxRecDepth 100000 in
theorem c_X4_type_b (l : Launch) (dC : Nat → ClassId) (dI : Nat → Nat → Nat) (cI cJ cS : ClassId) (x0 t0 b0 k0 sa : Nat) (im : Bool) (ta q3 : Nat) (tn tp : Nat) (Tp : Nat → Nat) (x : Int32) (hbad : ltrB x = false) : Met l yX4_type wsX4_type ({ frames := 1, cells := 0, slots := 0, locals := 21 }) (va_Pc [.ref x0, .int x] (rB (dC, dI) vwCl [(x0, .inr (4, [.ref t0, .ref b0, .ref k0, .int (bi im), .ref sa])), (t0, .inr (2, [.ref ta, .int (nI tn), .int (nI tp), .ref q3])), (ta, .inl (cI, 40, .inl (nA Tp)))] (tyz cI cJ cS))) (QcRead (-1)) 0 0 (fun _ => False) := by
  refine Met.ofW (cc := cX4_type) (maxL := 2) (ret := (some .int)) (by decide) rfl ?_
  intro p e s m args below meth c s₁ B hml hv
  obtain ⟨rfl, hP, hKK⟩ := hv
  have hK := hKK.1
  have hx := B.exec
  have hb := B.bytes
  have hr := B.returns
  have hts := atoms_spec (ws := wsX4_type) B.pre
  have hown : s.vm.findClass RX4 = some m.cls := findClass_of_methodNamed B.named
  have hlocks := B.notSynchronized
  have hiX2 : ∀ w ∈ wsX20, w ∈ wsX4_type := by decide +kernel
  have hiX4 : ∀ w ∈ wsX40, w ∈ wsX4_type := by decide +kernel
  have hl := lv_entry ([.ref x0, .int x]) (n := 2) (Nat.le_of_ble_eq_true rfl)
  rw [lg_entry_eq]
  generalize (lg_sl ([.ref x0, .int x]) ++ List.replicate (2 - (lg_sl ([.ref x0, .int x])).length) Slot.unset).toArray = ls at hl ⊢
  have hl : lv_has ls 2 [(0, .ref x0), (1, .int x)] := hl
  refine lv_iload_n hx hb dX4_type_0 rfl (lv_at hl 1 rfl) ?_
  refine lv_bipush (v := (nI 32)) hx hb dX4_type_1 (by decide) ?_
  refine lv_icmp_lt (tgt := 12) hx hb dX4_type_3 (by decide) (fun c3 => ?_) (fun c3 => ?_)
  · skip
    refine lv_iconst (v := (-1)) hx hb dX4_type_12 (by decide) ?_
    exact rr_iret hx hb hr hlocks dX4_type_13 (rfl)
  refine lv_iload_n hx hb dX4_type_6 rfl (lv_at hl 1 rfl) ?_
  refine lv_bipush (v := (nI 126)) hx hb dX4_type_7 (by decide) ?_
  refine lv_icmp_le (tgt := 14) hx hb dX4_type_9 (by decide) (fun c9 => ?_) (fun c9 => ?_)
  · skip
    exact absurd (lt_bad hbad c3 c9) id
  refine lv_iconst (v := (-1)) hx hb dX4_type_12 (by decide) ?_
  exact rr_iret hx hb hr hlocks dX4_type_13 (rfl)
set_option maxHeartbeats 4000000 in
set_option maxRecDepth 100000 in
theorem c_X4_rubbed_0 (l : Launch) (dC : Nat → ClassId) (dI : Nat → Nat → Nat) (cI cJ cS : ClassId) (x0 t0 k0 sa : Nat) (im : Bool) (b0 h3 hk hw hs hrs hpr hpd : Nat) (n h rg sp dr kn nx : Nat) (kf wf sf : Nat → Int32) (Kd Wd Sh Rr Pr Pd : Nat → Nat) (sd sq : Nat → Nat) (sh : Nat) (th : Bool) (ln len : Nat) (row : Nat → Int64) (wl : Int32) (a : Nat) (ok : wOk n Kd Wd) (fk : isA n kf Kd) (fw : isA n wf Wd) (fs : isA n sf Sh) (hS : ∀ j, j < n → Sh j < sp) (hsp : sp ≤ 47045881) (hsp0 : 0 < sp) (hR : rOk n Wd Rr) (hrg : rg < 2 ^ 31) (hs4 : sh < 4) (hlen : len ≤ 24) (hwl : inb wl 4 = true) (href : refI th ln len wl (nI a) (nI n) = nI 0) (has : a + n ≤ 24) : Met l yX4_rubbed wsX4_rubbed ({ frames := 3, cells := 0, slots := 0, locals := 70 }) (va_Pc [.ref x0, .int (nI sh), .int wl, .int (nI a), .int (nI 0)] (rB (dC, dI) vwCl [(x0, .inr (4, [.ref t0, .ref b0, .ref k0, .int (bi im), .ref sa])), (b0, .inr (0, [.ref h3, .ref hrs, .int (nI dr), .int (nI kn), .int (nI nx), .ref hpr, .ref hpd])), (h3, .inr (3, [.int (nI n), .int (nI h), .int (nI rg), .int (nI sp), .ref hk, .ref hw, .ref hs])), (hk, .inl (cI, 6, .inl kf)), (hw, .inl (cI, 6, .inl wf)), (hs, .inl (cI, 6, .inl sf)), (hrs, .inl (cI, 24, .inl (nA Rr))), (hpr, .inl (cI, 192, .inl (nA Pr))), (hpd, .inl (cI, 8, .inl (nA Pd))), (sa, .inl (cS, 4, .inr (.inr (.inr (.inr (saF sd)))))), (sd sh, .inr (1, [.int (bi th), .int (nI ln), .int (nI len), .ref (sq sh)])), (sq sh, .inl (cJ, 24, .inr (.inl row)))] (tyz cI cJ cS))) (QcRead (nI (rbX n Wd Sh sp rg row a))) 0 0 (fun _ => False) := by
  refine Met.ofW (cc := cX4_rubbed) (maxL := 9) (ret := (some .int)) (by decide) rfl ?_
  intro p e s m args below meth c s₁ B hml hv
  obtain ⟨rfl, hP, hKK⟩ := hv
  have hK := hKK.1
  have hx := B.exec
  have hb := B.bytes
  have hr := B.returns
  have hts := atoms_spec (ws := wsX4_rubbed) B.pre
  have hown : s.vm.findClass RX4 = some m.cls := findClass_of_methodNamed B.named
  have hlocks := B.notSynchronized
  have hiX0 : ∀ w ∈ wsX00, w ∈ wsX4_rubbed := by decide +kernel
  have hiX1 : ∀ w ∈ wsX10, w ∈ wsX4_rubbed := by decide +kernel
  have hiX3 : ∀ w ∈ wsX30, w ∈ wsX4_rubbed := by decide +kernel
  have hiX4 : ∀ w ∈ wsX40, w ∈ wsX4_rubbed := by decide +kernel
  have hl := lv_entry ([.ref x0, .int (nI sh), .int wl, .int (nI a), .int (nI 0)]) (n := 9) (Nat.le_of_ble_eq_true rfl)
  rw [lg_entry_eq]
  generalize (lg_sl ([.ref x0, .int (nI sh), .int wl, .int (nI a), .int (nI 0)]) ++ List.replicate (9 - (lg_sl ([.ref x0, .int (nI sh), .int wl, .int (nI a), .int (nI 0)])).length) Slot.unset).toArray = ls at hl ⊢
  have hl : lv_has ls 9 [(0, .ref x0), (1, .int (nI sh)), (2, .int wl), (3, .int (nI a)), (4, .int (nI 0))] := hl
  have hn6 := ok.1
  refine lv_iload_n hx hb dX4_rubbed_0 rfl (lv_at hl 1 rfl) ?_
  refine rr_callR (va_runS (As := [.int (nI sh)]) (rest := []) ⟨hx, hb, hml, hown, hts⟩ (c_X4_isSheet l (nI sh) ) (va_cwS 1 hts gX4_rubbed_X4_isSheet rfl rfl rfl (by decide +kernel) ⟨Nat.le_of_ble_eq_true rfl, Nat.le_of_ble_eq_true rfl⟩) rr_preT rfl rfl hl.1 rfl (lv_room (Nat.le_of_ble_eq_true rfl)) dX4_rubbed_1 ⟨Nat.zero_le _, Nat.zero_le _⟩) ?_
  refine rr_top (y := bi true) (congrArg bi (inb_lt (by omega) (by omega))) ?_
  refine rb_if_eq (tgt := 23) hx hb dX4_rubbed_4 (by decide) (fun c4 => ?_) (fun c4 => ?_)
  · exact absurd c4 (by decide)
  refine lv_iload_n hx hb dX4_rubbed_7 rfl (lv_at hl 2 rfl) ?_
  refine rr_callR (va_runS (As := [.int wl]) (rest := []) ⟨hx, hb, hml, hown, hts⟩ (c_X4_isLane l wl ) (va_cwS 1 hts gX4_rubbed_X4_isLane rfl rfl rfl (by decide +kernel) ⟨Nat.le_of_ble_eq_true rfl, Nat.le_of_ble_eq_true rfl⟩) rr_preT rfl rfl hl.1 rfl (lv_room (Nat.le_of_ble_eq_true rfl)) dX4_rubbed_8 ⟨Nat.zero_le _, Nat.zero_le _⟩) ?_
  refine rr_top (y := (bi true)) (congrArg bi hwl) ?_
  refine rb_if_eq (tgt := 23) hx hb dX4_rubbed_11 (by decide) (fun c11 => ?_) (fun c11 => ?_)
  · exact absurd c11 (by decide)
  refine lv_iload hx hb dX4_rubbed_14 (lv_at hl 4 rfl) ?_
  refine lv_iconst (v := (nI 2)) hx hb dX4_rubbed_16 (by decide) ?_
  refine rr_callR (va_runS (As := [.int (nI 0), .int (nI 2)]) (rest := []) ⟨hx, hb, hml, hown, hts⟩ (c_X4_isBelow l (nI 0) 2 (by first | assumption | omega)) (va_cwS 2 hts gX4_rubbed_X4_isBelow rfl rfl rfl (by decide +kernel) ⟨Nat.le_of_ble_eq_true rfl, Nat.le_of_ble_eq_true rfl⟩) rr_preT rfl rfl hl.1 rfl (lv_room (Nat.le_of_ble_eq_true rfl)) dX4_rubbed_17 ⟨Nat.zero_le _, Nat.zero_le _⟩) ?_
  refine rr_top (y := bi true) (congrArg bi (inb_lt (by omega) (by omega))) ?_
  refine rb_if_ne (tgt := 25) hx hb dX4_rubbed_20 (by decide) (fun c20 => ?_) (fun c20 => ?_)
  rotate_left
  · exact absurd c20 (by decide)
  refine lv_aload_n hx hb dX4_rubbed_25 rfl (lv_at hl 0 rfl) ?_
  refine va_get (D := (dC, dI)) (ci := 4) (v := .ref b0) (C := RX4) (T := TX4) (N := 5) hx hb hts hiX4 hown hK hP 0 rfl rfl 1 (by decide) (hts (.fieldLink RX4 19 "RestRegisters" "now" "LRestRegisters$Bank;") (by decide +kernel)) (fun _ h9 => h9) rfl dX4_rubbed_26 ?_
  refine va_get (D := (dC, dI)) (ci := 0) (v := .ref h3) (C := RX0) (T := TX0) (N := 7) hx hb hts hiX0 hown hK hP 1 rfl rfl 0 (by decide) (hts (.fieldLink RX4 61 "RestRegisters$Bank" "wheels" "LRestRegisters$Wheels;") (by decide +kernel)) (fun _ h9 => h9) rfl dX4_rubbed_29 ?_
  refine lv_astore (lv' := [(5, .ref h3), (0, .ref x0), (1, .int (nI sh)), (2, .int wl), (3, .int (nI a)), (4, .int (nI 0))]) hx hb dX4_rubbed_32 hl (by decide) rfl (fun ls hl => ?_)
  refine lv_aload_n hx hb dX4_rubbed_34 rfl (lv_at hl 1 rfl) ?_
  refine va_get (D := (dC, dI)) (ci := 4) (v := .ref sa) (C := RX4) (T := TX4) (N := 5) hx hb hts hiX4 hown hK hP 0 rfl rfl 4 (by decide) (hts (.fieldLink RX4 28 "RestRegisters" "sheets" "[LRestRegisters$Sheet;") (by decide +kernel)) (fun _ h9 => h9) rfl dX4_rubbed_35 ?_
  refine lv_iload_n hx hb dX4_rubbed_38 rfl (lv_at hl 2 rfl) ?_
  refine rn_aald hx hb hK hP 9 2 rfl rfl (i := sh) (by omega) (by decide) (v := sd sh) rfl dX4_rubbed_39 ?_
  refine lv_astore (lv' := [(6, .ref (sd sh)), (5, .ref h3), (0, .ref x0), (1, .int (nI sh)), (2, .int wl), (3, .int (nI a)), (4, .int (nI 0))]) hx hb dX4_rubbed_40 hl (by decide) rfl (fun ls hl => ?_)
  refine lv_aload hx hb dX4_rubbed_42 (lv_at hl 0 rfl) ?_
  refine lv_iload_n hx hb dX4_rubbed_44 rfl (lv_at hl 4 rfl) ?_
  refine lv_iload_n hx hb dX4_rubbed_45 rfl (lv_at hl 5 rfl) ?_
  refine lv_aload hx hb dX4_rubbed_46 (lv_at hl 1 rfl) ?_
  refine va_get (D := (dC, dI)) (ci := 3) (v := .int (nI n)) (C := RX3) (T := TX3) (N := 7) hx hb hts hiX3 hown hK hP 2 rfl rfl 0 (by decide) (hts (.fieldLink RX4 104 "RestRegisters$Wheels" "size" "I") (by decide +kernel)) (fun _ h9 => h9) rfl dX4_rubbed_48 ?_
  refine rr_callR (va_runV (As := [.int wl, .int (nI a), .int (nI n)]) (rest := []) ⟨hx, hb, hml, hown, hts⟩ (c_X1_refusal l dC dI cI cJ cS (sd sh) (sq sh) th ln len row wl (nI a) (nI n) (by first | assumption | omega)) (cwV 3 hts gX4_rubbed_X1_refusal rfl rfl rfl (by decide +kernel) ⟨Nat.le_of_ble_eq_true rfl, Nat.le_of_ble_eq_true rfl⟩) (rr_preV hKK (hP.sub [10, 11] rfl) rfl rfl) rfl rfl hl.1 rfl (lv_room (Nat.le_of_ble_eq_true rfl)) dX4_rubbed_51 ⟨Nat.zero_le _, Nat.zero_le _⟩) ?_
  refine rr_top (y := nI 0) href ?_
  refine lv_istore (lv' := [(7, .int (nI 0)), (6, .ref (sd sh)), (5, .ref h3), (0, .ref x0), (1, .int (nI sh)), (2, .int wl), (3, .int (nI a)), (4, .int (nI 0))]) hx hb dX4_rubbed_54 hl (by decide) rfl (fun ls hl => ?_)
  refine lv_iload hx hb dX4_rubbed_56 (lv_at hl 0 rfl) ?_
  refine rn_if_eq (tgt := 64) hx hb dX4_rubbed_58 (by decide) (by omega) (fun c58 => ?_) (fun c58 => ?_)
  · skip
    refine lv_aload hx hb dX4_rubbed_64 (lv_at hl 2 rfl) ?_
    refine lv_aload hx hb dX4_rubbed_66 (lv_at hl 1 rfl) ?_
    refine va_get (D := (dC, dI)) (ci := 1) (v := .ref (sq sh)) (C := RX1) (T := TX1) (N := 4) hx hb hts hiX1 hown hK hP 10 rfl rfl 3 (by decide) (hts (.fieldLink RX4 210 "RestRegisters$Sheet" "items" "[J") (by decide +kernel)) (fun _ h9 => h9) rfl dX4_rubbed_68 ?_
    refine lv_iload_n hx hb dX4_rubbed_71 rfl (lv_at hl 6 rfl) ?_
    refine rr_callR (va_runV (As := [.ref (sq sh), .int (nI a)]) (rest := []) ⟨hx, hb, hml, hown, hts⟩ (c_X3_leastFitting l dC dI cI cJ cS h3 hk hw hs n h rg sp kf wf sf Kd Wd Sh (sq sh) row a (by first | assumption | omega) (by first | assumption | omega) (by first | assumption | omega) (by first | assumption | omega) (by first | assumption | omega) (by first | assumption | omega) (by first | assumption | omega) (by first | assumption | omega)) (cwV 2 hts gX4_rubbed_X3_leastFitting rfl rfl rfl (by decide +kernel) ⟨Nat.le_of_ble_eq_true rfl, Nat.le_of_ble_eq_true rfl⟩) (rr_preV hKK (hP.sub [2, 3, 4, 5, 11] rfl) rfl rfl) rfl rfl hl.1 rfl (lv_room (Nat.le_of_ble_eq_true rfl)) dX4_rubbed_72 ⟨Nat.zero_le _, Nat.zero_le _⟩) ?_
    refine lv_istore (lv' := [(8, .int (lfI n Wd Sh sp rg row a)), (7, .int (nI 0)), (6, .ref (sd sh)), (5, .ref h3), (0, .ref x0), (1, .int (nI sh)), (2, .int wl), (3, .int (nI a)), (4, .int (nI 0))]) hx hb dX4_rubbed_75 hl (by decide) rfl (fun ls hl => ?_)
    refine lv_iload hx hb dX4_rubbed_77 (lv_at hl 8 rfl) ?_
    refine lv_iconst (v := (nI 1)) hx hb dX4_rubbed_79 (by decide) ?_
    refine rn_icmp_ne (tgt := 86) hx hb dX4_rubbed_80 (by decide) (by omega) (by omega) (fun c80 => ?_) (fun c80 => ?_)
    · skip
      refine lv_iload hx hb dX4_rubbed_86 (lv_at hl 0 rfl) ?_
      refine lv_bipush (v := (-4)) hx hb dX4_rubbed_88 (by decide) ?_
      refine lv_icmp_ne (tgt := 97) hx hb dX4_rubbed_90 (by decide) (fun c90 => ?_) (fun c90 => ?_)
      · skip
        refine lv_aload hx hb dX4_rubbed_97 (lv_at hl 3 rfl) ?_
        refine lv_iload hx hb dX4_rubbed_99 (lv_at hl 0 rfl) ?_
        have hlf := lfI_ne c90
        refine rr_top (y := nI (vF Sh sp row a n % prO Wd (orS (tldB row a) n) n)) hlf.2.2 ?_
        have ho64 := orS_64 (tldB row a) hn6
        refine lv_aload hx hb dX4_rubbed_101 (lv_at hl 3 rfl) ?_
        refine lv_aload hx hb dX4_rubbed_103 (lv_at hl 2 rfl) ?_
        refine va_get (D := (dC, dI)) (ci := 1) (v := .ref (sq sh)) (C := RX1) (T := TX1) (N := 4) hx hb hts hiX1 hown hK hP 10 rfl rfl 3 (by decide) (hts (.fieldLink RX4 210 "RestRegisters$Sheet" "items" "[J") (by decide +kernel)) (fun _ h9 => h9) rfl dX4_rubbed_105 ?_
        refine lv_iload_n hx hb dX4_rubbed_108 rfl (lv_at hl 7 rfl) ?_
        refine rr_callR (va_runV (As := [.ref (sq sh), .int (nI a)]) (rest := [.int (nI (vF Sh sp row a n % prO Wd (orS (tldB row a) n) n)), .ref h3]) ⟨hx, hb, hml, hown, hts⟩ (c_X3_told l dC dI cI cJ cS h3 hk hw hs n h rg sp kf wf sf Kd Wd Sh (sq sh) row a (by first | assumption | omega) (by first | assumption | omega)) (cwV 2 hts gX4_rubbed_X3_told rfl rfl rfl (by decide +kernel) ⟨Nat.le_of_ble_eq_true rfl, Nat.le_of_ble_eq_true rfl⟩) (rr_preV hKK (hP.sub [2, 3, 4, 5, 11] rfl) rfl rfl) rfl rfl hl.1 rfl (lv_room (Nat.le_of_ble_eq_true rfl)) dX4_rubbed_109 ⟨Nat.zero_le _, Nat.zero_le _⟩) ?_
        refine rr_callR (va_runV (As := [.int (nI (vF Sh sp row a n % prO Wd (orS (tldB row a) n) n)), .int (nI (orS (tldB row a) n))]) (rest := []) ⟨hx, hb, hml, hown, hts⟩ (c_X3_howManyFrom l dC dI cI cJ cS h3 hk hw hs n h rg sp kf wf sf Kd Wd Sh (vF Sh sp row a n % prO Wd (orS (tldB row a) n) n) (orS (tldB row a) n) (by first | assumption | omega) (by first | assumption | omega) (ho64) (hlf.2.1) (by first | assumption | omega)) (cwV 2 hts gX4_rubbed_X3_howManyFrom rfl rfl rfl (by decide +kernel) ⟨Nat.le_of_ble_eq_true rfl, Nat.le_of_ble_eq_true rfl⟩) (rr_preV hKK (hP.sub [2, 3, 4, 5] rfl) rfl rfl) rfl rfl hl.1 rfl (lv_room (Nat.le_of_ble_eq_true rfl)) dX4_rubbed_112 ⟨Nat.zero_le _, Nat.zero_le _⟩) ?_
        exact rr_iret hx hb hr hlocks dX4_rubbed_115 (by unfold rbX; first | (rw [if_pos c90]; done) | (rw [if_neg c90]))
      refine lv_iconst (v := (nI 0)) hx hb dX4_rubbed_93 (by decide) ?_
      refine lv_goto (tgt := 115) hx hb dX4_rubbed_94 (by decide) ?_
      exact rr_iret hx hb hr hlocks dX4_rubbed_115 (by unfold rbX; first | (rw [if_pos c90]; done) | (rw [if_neg c90]))
    exact absurd c80 (by decide)
  exact absurd rfl c58
set_option maxHeartbeats 4000000 in
set_option maxRecDepth 100000 in
theorem c_X4_rubbed_1 (l : Launch) (dC : Nat → ClassId) (dI : Nat → Nat → Nat) (cI cJ cS : ClassId) (x0 t0 k0 sa : Nat) (im : Bool) (b0 h3 hk hw hs hrs hpr hpd : Nat) (n h rg sp dr kn nx : Nat) (kf wf sf : Nat → Int32) (Kd Wd Sh Rr Pr Pd : Nat → Nat) (sd sq : Nat → Nat) (sh : Nat) (th : Bool) (ln len : Nat) (row : Nat → Int64) (wl : Int32) (a : Nat) (ok : wOk n Kd Wd) (fk : isA n kf Kd) (fw : isA n wf Wd) (fs : isA n sf Sh) (hS : ∀ j, j < n → Sh j < sp) (hsp : sp ≤ 47045881) (hsp0 : 0 < sp) (hR : rOk n Wd Rr) (hrg : rg < 2 ^ 31) (hs4 : sh < 4) (hlen : len ≤ 24) (hwl : inb wl 4 = true) (href : refI th ln len wl (nI a) (nI n) = nI 0) (has : a + n ≤ 24) : Met l yX4_rubbed wsX4_rubbed ({ frames := 3, cells := 0, slots := 0, locals := 70 }) (va_Pc [.ref x0, .int (nI sh), .int wl, .int (nI a), .int (nI 1)] (rB (dC, dI) vwCl [(x0, .inr (4, [.ref t0, .ref b0, .ref k0, .int (bi im), .ref sa])), (b0, .inr (0, [.ref h3, .ref hrs, .int (nI dr), .int (nI kn), .int (nI nx), .ref hpr, .ref hpd])), (h3, .inr (3, [.int (nI n), .int (nI h), .int (nI rg), .int (nI sp), .ref hk, .ref hw, .ref hs])), (hk, .inl (cI, 6, .inl kf)), (hw, .inl (cI, 6, .inl wf)), (hs, .inl (cI, 6, .inl sf)), (hrs, .inl (cI, 24, .inl (nA Rr))), (hpr, .inl (cI, 192, .inl (nA Pr))), (hpd, .inl (cI, 8, .inl (nA Pd))), (sa, .inl (cS, 4, .inr (.inr (.inr (.inr (saF sd)))))), (sd sh, .inr (1, [.int (bi th), .int (nI ln), .int (nI len), .ref (sq sh)])), (sq sh, .inl (cJ, 24, .inr (.inl row)))] (tyz cI cJ cS))) (QcRead (lfI n Wd Sh sp rg row a)) 0 0 (fun _ => False) := by
  refine Met.ofW (cc := cX4_rubbed) (maxL := 9) (ret := (some .int)) (by decide) rfl ?_
  intro p e s m args below meth c s₁ B hml hv
  obtain ⟨rfl, hP, hKK⟩ := hv
  have hK := hKK.1
  have hx := B.exec
  have hb := B.bytes
  have hr := B.returns
  have hts := atoms_spec (ws := wsX4_rubbed) B.pre
  have hown : s.vm.findClass RX4 = some m.cls := findClass_of_methodNamed B.named
  have hlocks := B.notSynchronized
  have hiX0 : ∀ w ∈ wsX00, w ∈ wsX4_rubbed := by decide +kernel
  have hiX1 : ∀ w ∈ wsX10, w ∈ wsX4_rubbed := by decide +kernel
  have hiX3 : ∀ w ∈ wsX30, w ∈ wsX4_rubbed := by decide +kernel
  have hiX4 : ∀ w ∈ wsX40, w ∈ wsX4_rubbed := by decide +kernel
  have hl := lv_entry ([.ref x0, .int (nI sh), .int wl, .int (nI a), .int (nI 1)]) (n := 9) (Nat.le_of_ble_eq_true rfl)
  rw [lg_entry_eq]
  generalize (lg_sl ([.ref x0, .int (nI sh), .int wl, .int (nI a), .int (nI 1)]) ++ List.replicate (9 - (lg_sl ([.ref x0, .int (nI sh), .int wl, .int (nI a), .int (nI 1)])).length) Slot.unset).toArray = ls at hl ⊢
  have hl : lv_has ls 9 [(0, .ref x0), (1, .int (nI sh)), (2, .int wl), (3, .int (nI a)), (4, .int (nI 1))] := hl
  have hn6 := ok.1
  refine lv_iload_n hx hb dX4_rubbed_0 rfl (lv_at hl 1 rfl) ?_
  refine rr_callR (va_runS (As := [.int (nI sh)]) (rest := []) ⟨hx, hb, hml, hown, hts⟩ (c_X4_isSheet l (nI sh) ) (va_cwS 1 hts gX4_rubbed_X4_isSheet rfl rfl rfl (by decide +kernel) ⟨Nat.le_of_ble_eq_true rfl, Nat.le_of_ble_eq_true rfl⟩) rr_preT rfl rfl hl.1 rfl (lv_room (Nat.le_of_ble_eq_true rfl)) dX4_rubbed_1 ⟨Nat.zero_le _, Nat.zero_le _⟩) ?_
  refine rr_top (y := bi true) (congrArg bi (inb_lt (by omega) (by omega))) ?_
  refine rb_if_eq (tgt := 23) hx hb dX4_rubbed_4 (by decide) (fun c4 => ?_) (fun c4 => ?_)
  · exact absurd c4 (by decide)
  refine lv_iload_n hx hb dX4_rubbed_7 rfl (lv_at hl 2 rfl) ?_
  refine rr_callR (va_runS (As := [.int wl]) (rest := []) ⟨hx, hb, hml, hown, hts⟩ (c_X4_isLane l wl ) (va_cwS 1 hts gX4_rubbed_X4_isLane rfl rfl rfl (by decide +kernel) ⟨Nat.le_of_ble_eq_true rfl, Nat.le_of_ble_eq_true rfl⟩) rr_preT rfl rfl hl.1 rfl (lv_room (Nat.le_of_ble_eq_true rfl)) dX4_rubbed_8 ⟨Nat.zero_le _, Nat.zero_le _⟩) ?_
  refine rr_top (y := (bi true)) (congrArg bi hwl) ?_
  refine rb_if_eq (tgt := 23) hx hb dX4_rubbed_11 (by decide) (fun c11 => ?_) (fun c11 => ?_)
  · exact absurd c11 (by decide)
  refine lv_iload hx hb dX4_rubbed_14 (lv_at hl 4 rfl) ?_
  refine lv_iconst (v := (nI 2)) hx hb dX4_rubbed_16 (by decide) ?_
  refine rr_callR (va_runS (As := [.int (nI 1), .int (nI 2)]) (rest := []) ⟨hx, hb, hml, hown, hts⟩ (c_X4_isBelow l (nI 1) 2 (by first | assumption | omega)) (va_cwS 2 hts gX4_rubbed_X4_isBelow rfl rfl rfl (by decide +kernel) ⟨Nat.le_of_ble_eq_true rfl, Nat.le_of_ble_eq_true rfl⟩) rr_preT rfl rfl hl.1 rfl (lv_room (Nat.le_of_ble_eq_true rfl)) dX4_rubbed_17 ⟨Nat.zero_le _, Nat.zero_le _⟩) ?_
  refine rr_top (y := bi true) (congrArg bi (inb_lt (by omega) (by omega))) ?_
  refine rb_if_ne (tgt := 25) hx hb dX4_rubbed_20 (by decide) (fun c20 => ?_) (fun c20 => ?_)
  rotate_left
  · exact absurd c20 (by decide)
  refine lv_aload_n hx hb dX4_rubbed_25 rfl (lv_at hl 0 rfl) ?_
  refine va_get (D := (dC, dI)) (ci := 4) (v := .ref b0) (C := RX4) (T := TX4) (N := 5) hx hb hts hiX4 hown hK hP 0 rfl rfl 1 (by decide) (hts (.fieldLink RX4 19 "RestRegisters" "now" "LRestRegisters$Bank;") (by decide +kernel)) (fun _ h9 => h9) rfl dX4_rubbed_26 ?_
  refine va_get (D := (dC, dI)) (ci := 0) (v := .ref h3) (C := RX0) (T := TX0) (N := 7) hx hb hts hiX0 hown hK hP 1 rfl rfl 0 (by decide) (hts (.fieldLink RX4 61 "RestRegisters$Bank" "wheels" "LRestRegisters$Wheels;") (by decide +kernel)) (fun _ h9 => h9) rfl dX4_rubbed_29 ?_
  refine lv_astore (lv' := [(5, .ref h3), (0, .ref x0), (1, .int (nI sh)), (2, .int wl), (3, .int (nI a)), (4, .int (nI 1))]) hx hb dX4_rubbed_32 hl (by decide) rfl (fun ls hl => ?_)
  refine lv_aload_n hx hb dX4_rubbed_34 rfl (lv_at hl 1 rfl) ?_
  refine va_get (D := (dC, dI)) (ci := 4) (v := .ref sa) (C := RX4) (T := TX4) (N := 5) hx hb hts hiX4 hown hK hP 0 rfl rfl 4 (by decide) (hts (.fieldLink RX4 28 "RestRegisters" "sheets" "[LRestRegisters$Sheet;") (by decide +kernel)) (fun _ h9 => h9) rfl dX4_rubbed_35 ?_
  refine lv_iload_n hx hb dX4_rubbed_38 rfl (lv_at hl 2 rfl) ?_
  refine rn_aald hx hb hK hP 9 2 rfl rfl (i := sh) (by omega) (by decide) (v := sd sh) rfl dX4_rubbed_39 ?_
  refine lv_astore (lv' := [(6, .ref (sd sh)), (5, .ref h3), (0, .ref x0), (1, .int (nI sh)), (2, .int wl), (3, .int (nI a)), (4, .int (nI 1))]) hx hb dX4_rubbed_40 hl (by decide) rfl (fun ls hl => ?_)
  refine lv_aload hx hb dX4_rubbed_42 (lv_at hl 0 rfl) ?_
  refine lv_iload_n hx hb dX4_rubbed_44 rfl (lv_at hl 4 rfl) ?_
  refine lv_iload_n hx hb dX4_rubbed_45 rfl (lv_at hl 5 rfl) ?_
  refine lv_aload hx hb dX4_rubbed_46 (lv_at hl 1 rfl) ?_
  refine va_get (D := (dC, dI)) (ci := 3) (v := .int (nI n)) (C := RX3) (T := TX3) (N := 7) hx hb hts hiX3 hown hK hP 2 rfl rfl 0 (by decide) (hts (.fieldLink RX4 104 "RestRegisters$Wheels" "size" "I") (by decide +kernel)) (fun _ h9 => h9) rfl dX4_rubbed_48 ?_
  refine rr_callR (va_runV (As := [.int wl, .int (nI a), .int (nI n)]) (rest := []) ⟨hx, hb, hml, hown, hts⟩ (c_X1_refusal l dC dI cI cJ cS (sd sh) (sq sh) th ln len row wl (nI a) (nI n) (by first | assumption | omega)) (cwV 3 hts gX4_rubbed_X1_refusal rfl rfl rfl (by decide +kernel) ⟨Nat.le_of_ble_eq_true rfl, Nat.le_of_ble_eq_true rfl⟩) (rr_preV hKK (hP.sub [10, 11] rfl) rfl rfl) rfl rfl hl.1 rfl (lv_room (Nat.le_of_ble_eq_true rfl)) dX4_rubbed_51 ⟨Nat.zero_le _, Nat.zero_le _⟩) ?_
  refine rr_top (y := nI 0) href ?_
  refine lv_istore (lv' := [(7, .int (nI 0)), (6, .ref (sd sh)), (5, .ref h3), (0, .ref x0), (1, .int (nI sh)), (2, .int wl), (3, .int (nI a)), (4, .int (nI 1))]) hx hb dX4_rubbed_54 hl (by decide) rfl (fun ls hl => ?_)
  refine lv_iload hx hb dX4_rubbed_56 (lv_at hl 0 rfl) ?_
  refine rn_if_eq (tgt := 64) hx hb dX4_rubbed_58 (by decide) (by omega) (fun c58 => ?_) (fun c58 => ?_)
  · skip
    refine lv_aload hx hb dX4_rubbed_64 (lv_at hl 2 rfl) ?_
    refine lv_aload hx hb dX4_rubbed_66 (lv_at hl 1 rfl) ?_
    refine va_get (D := (dC, dI)) (ci := 1) (v := .ref (sq sh)) (C := RX1) (T := TX1) (N := 4) hx hb hts hiX1 hown hK hP 10 rfl rfl 3 (by decide) (hts (.fieldLink RX4 210 "RestRegisters$Sheet" "items" "[J") (by decide +kernel)) (fun _ h9 => h9) rfl dX4_rubbed_68 ?_
    refine lv_iload_n hx hb dX4_rubbed_71 rfl (lv_at hl 6 rfl) ?_
    refine rr_callR (va_runV (As := [.ref (sq sh), .int (nI a)]) (rest := []) ⟨hx, hb, hml, hown, hts⟩ (c_X3_leastFitting l dC dI cI cJ cS h3 hk hw hs n h rg sp kf wf sf Kd Wd Sh (sq sh) row a (by first | assumption | omega) (by first | assumption | omega) (by first | assumption | omega) (by first | assumption | omega) (by first | assumption | omega) (by first | assumption | omega) (by first | assumption | omega) (by first | assumption | omega)) (cwV 2 hts gX4_rubbed_X3_leastFitting rfl rfl rfl (by decide +kernel) ⟨Nat.le_of_ble_eq_true rfl, Nat.le_of_ble_eq_true rfl⟩) (rr_preV hKK (hP.sub [2, 3, 4, 5, 11] rfl) rfl rfl) rfl rfl hl.1 rfl (lv_room (Nat.le_of_ble_eq_true rfl)) dX4_rubbed_72 ⟨Nat.zero_le _, Nat.zero_le _⟩) ?_
    refine lv_istore (lv' := [(8, .int (lfI n Wd Sh sp rg row a)), (7, .int (nI 0)), (6, .ref (sd sh)), (5, .ref h3), (0, .ref x0), (1, .int (nI sh)), (2, .int wl), (3, .int (nI a)), (4, .int (nI 1))]) hx hb dX4_rubbed_75 hl (by decide) rfl (fun ls hl => ?_)
    refine lv_iload hx hb dX4_rubbed_77 (lv_at hl 8 rfl) ?_
    refine lv_iconst (v := (nI 1)) hx hb dX4_rubbed_79 (by decide) ?_
    refine rn_icmp_ne (tgt := 86) hx hb dX4_rubbed_80 (by decide) (by omega) (by omega) (fun c80 => ?_) (fun c80 => ?_)
    · skip
      exact absurd rfl c80
    refine lv_iload hx hb dX4_rubbed_83 (lv_at hl 0 rfl) ?_
    exact rr_iret hx hb hr hlocks dX4_rubbed_85 (rfl)
  exact absurd rfl c58
set_option maxHeartbeats 4000000 in
set_option maxRecDepth 100000 in
theorem c_X4_rubbed_r (l : Launch) (dC : Nat → ClassId) (dI : Nat → Nat → Nat) (cI cJ cS : ClassId) (x0 t0 k0 sa : Nat) (im : Bool) (b0 h3 hk hw hs hrs hpr hpd : Nat) (n h rg sp dr kn nx : Nat) (kf wf sf : Nat → Int32) (Kd Wd Sh Rr Pr Pd : Nat → Nat) (sd sq : Nat → Nat) (sh : Nat) (th : Bool) (ln len : Nat) (row : Nat → Int64) (wl i u : Int32) (ok : wOk n Kd Wd) (hs4 : sh < 4) (hlen : len ≤ 24) (hwl : inb wl 4 = true) (hu : inb u 2 = true) (href : ¬ refI th ln len wl i (nI n) = nI 0) : Met l yX4_rubbed wsX4_rubbed ({ frames := 3, cells := 0, slots := 0, locals := 70 }) (va_Pc [.ref x0, .int (nI sh), .int wl, .int i, .int u] (rB (dC, dI) vwCl [(x0, .inr (4, [.ref t0, .ref b0, .ref k0, .int (bi im), .ref sa])), (b0, .inr (0, [.ref h3, .ref hrs, .int (nI dr), .int (nI kn), .int (nI nx), .ref hpr, .ref hpd])), (h3, .inr (3, [.int (nI n), .int (nI h), .int (nI rg), .int (nI sp), .ref hk, .ref hw, .ref hs])), (hk, .inl (cI, 6, .inl kf)), (hw, .inl (cI, 6, .inl wf)), (hs, .inl (cI, 6, .inl sf)), (hrs, .inl (cI, 24, .inl (nA Rr))), (hpr, .inl (cI, 192, .inl (nA Pr))), (hpd, .inl (cI, 8, .inl (nA Pd))), (sa, .inl (cS, 4, .inr (.inr (.inr (.inr (saF sd)))))), (sd sh, .inr (1, [.int (bi th), .int (nI ln), .int (nI len), .ref (sq sh)])), (sq sh, .inl (cJ, 24, .inr (.inl row)))] (tyz cI cJ cS))) (QcRead (refI th ln len wl i (nI n))) 0 0 (fun _ => False) := by
  refine Met.ofW (cc := cX4_rubbed) (maxL := 9) (ret := (some .int)) (by decide) rfl ?_
  intro p e s m args below meth c s₁ B hml hv
  obtain ⟨rfl, hP, hKK⟩ := hv
  have hK := hKK.1
  have hx := B.exec
  have hb := B.bytes
  have hr := B.returns
  have hts := atoms_spec (ws := wsX4_rubbed) B.pre
  have hown : s.vm.findClass RX4 = some m.cls := findClass_of_methodNamed B.named
  have hlocks := B.notSynchronized
  have hiX0 : ∀ w ∈ wsX00, w ∈ wsX4_rubbed := by decide +kernel
  have hiX1 : ∀ w ∈ wsX10, w ∈ wsX4_rubbed := by decide +kernel
  have hiX3 : ∀ w ∈ wsX30, w ∈ wsX4_rubbed := by decide +kernel
  have hiX4 : ∀ w ∈ wsX40, w ∈ wsX4_rubbed := by decide +kernel
  have hl := lv_entry ([.ref x0, .int (nI sh), .int wl, .int i, .int u]) (n := 9) (Nat.le_of_ble_eq_true rfl)
  rw [lg_entry_eq]
  generalize (lg_sl ([.ref x0, .int (nI sh), .int wl, .int i, .int u]) ++ List.replicate (9 - (lg_sl ([.ref x0, .int (nI sh), .int wl, .int i, .int u])).length) Slot.unset).toArray = ls at hl ⊢
  have hl : lv_has ls 9 [(0, .ref x0), (1, .int (nI sh)), (2, .int wl), (3, .int i), (4, .int u)] := hl
  refine lv_iload_n hx hb dX4_rubbed_0 rfl (lv_at hl 1 rfl) ?_
  refine rr_callR (va_runS (As := [.int (nI sh)]) (rest := []) ⟨hx, hb, hml, hown, hts⟩ (c_X4_isSheet l (nI sh) ) (va_cwS 1 hts gX4_rubbed_X4_isSheet rfl rfl rfl (by decide +kernel) ⟨Nat.le_of_ble_eq_true rfl, Nat.le_of_ble_eq_true rfl⟩) rr_preT rfl rfl hl.1 rfl (lv_room (Nat.le_of_ble_eq_true rfl)) dX4_rubbed_1 ⟨Nat.zero_le _, Nat.zero_le _⟩) ?_
  refine rr_top (y := bi true) (congrArg bi (inb_lt (by omega) (by omega))) ?_
  refine rb_if_eq (tgt := 23) hx hb dX4_rubbed_4 (by decide) (fun c4 => ?_) (fun c4 => ?_)
  · exact absurd c4 (by decide)
  refine lv_iload_n hx hb dX4_rubbed_7 rfl (lv_at hl 2 rfl) ?_
  refine rr_callR (va_runS (As := [.int wl]) (rest := []) ⟨hx, hb, hml, hown, hts⟩ (c_X4_isLane l wl ) (va_cwS 1 hts gX4_rubbed_X4_isLane rfl rfl rfl (by decide +kernel) ⟨Nat.le_of_ble_eq_true rfl, Nat.le_of_ble_eq_true rfl⟩) rr_preT rfl rfl hl.1 rfl (lv_room (Nat.le_of_ble_eq_true rfl)) dX4_rubbed_8 ⟨Nat.zero_le _, Nat.zero_le _⟩) ?_
  refine rr_top (y := (bi true)) (congrArg bi hwl) ?_
  refine rb_if_eq (tgt := 23) hx hb dX4_rubbed_11 (by decide) (fun c11 => ?_) (fun c11 => ?_)
  · exact absurd c11 (by decide)
  refine lv_iload hx hb dX4_rubbed_14 (lv_at hl 4 rfl) ?_
  refine lv_iconst (v := (nI 2)) hx hb dX4_rubbed_16 (by decide) ?_
  refine rr_callR (va_runS (As := [.int u, .int (nI 2)]) (rest := []) ⟨hx, hb, hml, hown, hts⟩ (c_X4_isBelow l u 2 (by first | assumption | omega)) (va_cwS 2 hts gX4_rubbed_X4_isBelow rfl rfl rfl (by decide +kernel) ⟨Nat.le_of_ble_eq_true rfl, Nat.le_of_ble_eq_true rfl⟩) rr_preT rfl rfl hl.1 rfl (lv_room (Nat.le_of_ble_eq_true rfl)) dX4_rubbed_17 ⟨Nat.zero_le _, Nat.zero_le _⟩) ?_
  refine rr_top (y := (bi true)) (congrArg bi hu) ?_
  refine rb_if_ne (tgt := 25) hx hb dX4_rubbed_20 (by decide) (fun c20 => ?_) (fun c20 => ?_)
  rotate_left
  · exact absurd c20 (by decide)
  refine lv_aload_n hx hb dX4_rubbed_25 rfl (lv_at hl 0 rfl) ?_
  refine va_get (D := (dC, dI)) (ci := 4) (v := .ref b0) (C := RX4) (T := TX4) (N := 5) hx hb hts hiX4 hown hK hP 0 rfl rfl 1 (by decide) (hts (.fieldLink RX4 19 "RestRegisters" "now" "LRestRegisters$Bank;") (by decide +kernel)) (fun _ h9 => h9) rfl dX4_rubbed_26 ?_
  refine va_get (D := (dC, dI)) (ci := 0) (v := .ref h3) (C := RX0) (T := TX0) (N := 7) hx hb hts hiX0 hown hK hP 1 rfl rfl 0 (by decide) (hts (.fieldLink RX4 61 "RestRegisters$Bank" "wheels" "LRestRegisters$Wheels;") (by decide +kernel)) (fun _ h9 => h9) rfl dX4_rubbed_29 ?_
  refine lv_astore (lv' := [(5, .ref h3), (0, .ref x0), (1, .int (nI sh)), (2, .int wl), (3, .int i), (4, .int u)]) hx hb dX4_rubbed_32 hl (by decide) rfl (fun ls hl => ?_)
  refine lv_aload_n hx hb dX4_rubbed_34 rfl (lv_at hl 1 rfl) ?_
  refine va_get (D := (dC, dI)) (ci := 4) (v := .ref sa) (C := RX4) (T := TX4) (N := 5) hx hb hts hiX4 hown hK hP 0 rfl rfl 4 (by decide) (hts (.fieldLink RX4 28 "RestRegisters" "sheets" "[LRestRegisters$Sheet;") (by decide +kernel)) (fun _ h9 => h9) rfl dX4_rubbed_35 ?_
  refine lv_iload_n hx hb dX4_rubbed_38 rfl (lv_at hl 2 rfl) ?_
  refine rn_aald hx hb hK hP 9 2 rfl rfl (i := sh) (by omega) (by decide) (v := sd sh) rfl dX4_rubbed_39 ?_
  refine lv_astore (lv' := [(6, .ref (sd sh)), (5, .ref h3), (0, .ref x0), (1, .int (nI sh)), (2, .int wl), (3, .int i), (4, .int u)]) hx hb dX4_rubbed_40 hl (by decide) rfl (fun ls hl => ?_)
  refine lv_aload hx hb dX4_rubbed_42 (lv_at hl 0 rfl) ?_
  refine lv_iload_n hx hb dX4_rubbed_44 rfl (lv_at hl 4 rfl) ?_
  refine lv_iload_n hx hb dX4_rubbed_45 rfl (lv_at hl 5 rfl) ?_
  refine lv_aload hx hb dX4_rubbed_46 (lv_at hl 1 rfl) ?_
  refine va_get (D := (dC, dI)) (ci := 3) (v := .int (nI n)) (C := RX3) (T := TX3) (N := 7) hx hb hts hiX3 hown hK hP 2 rfl rfl 0 (by decide) (hts (.fieldLink RX4 104 "RestRegisters$Wheels" "size" "I") (by decide +kernel)) (fun _ h9 => h9) rfl dX4_rubbed_48 ?_
  refine rr_callR (va_runV (As := [.int wl, .int i, .int (nI n)]) (rest := []) ⟨hx, hb, hml, hown, hts⟩ (c_X1_refusal l dC dI cI cJ cS (sd sh) (sq sh) th ln len row wl i (nI n) (by first | assumption | omega)) (cwV 3 hts gX4_rubbed_X1_refusal rfl rfl rfl (by decide +kernel) ⟨Nat.le_of_ble_eq_true rfl, Nat.le_of_ble_eq_true rfl⟩) (rr_preV hKK (hP.sub [10, 11] rfl) rfl rfl) rfl rfl hl.1 rfl (lv_room (Nat.le_of_ble_eq_true rfl)) dX4_rubbed_51 ⟨Nat.zero_le _, Nat.zero_le _⟩) ?_
  refine lv_istore (lv' := [(7, .int (refI th ln len wl i (nI n))), (6, .ref (sd sh)), (5, .ref h3), (0, .ref x0), (1, .int (nI sh)), (2, .int wl), (3, .int i), (4, .int u)]) hx hb dX4_rubbed_54 hl (by decide) rfl (fun ls hl => ?_)
  refine lv_iload hx hb dX4_rubbed_56 (lv_at hl 0 rfl) ?_
  refine lv_if_eq (tgt := 64) hx hb dX4_rubbed_58 (by decide) (fun c58 => ?_) (fun c58 => ?_)
  · skip
    exact absurd (c58.trans nI_0.symm) href
  refine lv_iload hx hb dX4_rubbed_61 (lv_at hl 0 rfl) ?_
  exact rr_iret hx hb hr hlocks dX4_rubbed_63 (rfl)
set_option maxHeartbeats 4000000 in
set_option maxRecDepth 100000 in
theorem c_X4_rubbed_b (l : Launch) (dC : Nat → ClassId) (dI : Nat → Nat → Nat) (cI cJ cS : ClassId) (x0 t0 k0 sa : Nat) (im : Bool) (b0 h3 hk hw hs hrs hpr hpd : Nat) (n h rg sp dr kn nx : Nat) (kf wf sf : Nat → Int32) (Kd Wd Sh Rr Pr Pd : Nat → Nat) (x y i u : Int32) (hbad : (inb x 4 && inb y 4 && inb u 2) = false) : Met l yX4_rubbed wsX4_rubbed ({ frames := 3, cells := 0, slots := 0, locals := 70 }) (va_Pc [.ref x0, .int x, .int y, .int i, .int u] (rB (dC, dI) vwCl [(x0, .inr (4, [.ref t0, .ref b0, .ref k0, .int (bi im), .ref sa])), (b0, .inr (0, [.ref h3, .ref hrs, .int (nI dr), .int (nI kn), .int (nI nx), .ref hpr, .ref hpd])), (h3, .inr (3, [.int (nI n), .int (nI h), .int (nI rg), .int (nI sp), .ref hk, .ref hw, .ref hs])), (hk, .inl (cI, 6, .inl kf)), (hw, .inl (cI, 6, .inl wf)), (hs, .inl (cI, 6, .inl sf)), (hrs, .inl (cI, 24, .inl (nA Rr))), (hpr, .inl (cI, 192, .inl (nA Pr))), (hpd, .inl (cI, 8, .inl (nA Pd)))] (tyz cI cJ cS))) (QcRead (-1)) 0 0 (fun _ => False) := by
  refine Met.ofW (cc := cX4_rubbed) (maxL := 9) (ret := (some .int)) (by decide) rfl ?_
  intro p e s m args below meth c s₁ B hml hv
  obtain ⟨rfl, hP, hKK⟩ := hv
  have hK := hKK.1
  have hx := B.exec
  have hb := B.bytes
  have hr := B.returns
  have hts := atoms_spec (ws := wsX4_rubbed) B.pre
  have hown : s.vm.findClass RX4 = some m.cls := findClass_of_methodNamed B.named
  have hlocks := B.notSynchronized
  have hiX0 : ∀ w ∈ wsX00, w ∈ wsX4_rubbed := by decide +kernel
  have hiX1 : ∀ w ∈ wsX10, w ∈ wsX4_rubbed := by decide +kernel
  have hiX3 : ∀ w ∈ wsX30, w ∈ wsX4_rubbed := by decide +kernel
  have hiX4 : ∀ w ∈ wsX40, w ∈ wsX4_rubbed := by decide +kernel
  have hl := lv_entry ([.ref x0, .int x, .int y, .int i, .int u]) (n := 9) (Nat.le_of_ble_eq_true rfl)
  rw [lg_entry_eq]
  generalize (lg_sl ([.ref x0, .int x, .int y, .int i, .int u]) ++ List.replicate (9 - (lg_sl ([.ref x0, .int x, .int y, .int i, .int u])).length) Slot.unset).toArray = ls at hl ⊢
  have hl : lv_has ls 9 [(0, .ref x0), (1, .int x), (2, .int y), (3, .int i), (4, .int u)] := hl
  refine lv_iload_n hx hb dX4_rubbed_0 rfl (lv_at hl 1 rfl) ?_
  refine rr_callR (va_runS (As := [.int x]) (rest := []) ⟨hx, hb, hml, hown, hts⟩ (c_X4_isSheet l x ) (va_cwS 1 hts gX4_rubbed_X4_isSheet rfl rfl rfl (by decide +kernel) ⟨Nat.le_of_ble_eq_true rfl, Nat.le_of_ble_eq_true rfl⟩) rr_preT rfl rfl hl.1 rfl (lv_room (Nat.le_of_ble_eq_true rfl)) dX4_rubbed_1 ⟨Nat.zero_le _, Nat.zero_le _⟩) ?_
  refine rb_if_eq (tgt := 23) hx hb dX4_rubbed_4 (by decide) (fun c4 => ?_) (fun c4 => ?_)
  · skip
    refine lv_iconst (v := (-1)) hx hb dX4_rubbed_23 (by decide) ?_
    exact rr_iret hx hb hr hlocks dX4_rubbed_24 (rfl)
  refine lv_iload_n hx hb dX4_rubbed_7 rfl (lv_at hl 2 rfl) ?_
  refine rr_callR (va_runS (As := [.int y]) (rest := []) ⟨hx, hb, hml, hown, hts⟩ (c_X4_isLane l y ) (va_cwS 1 hts gX4_rubbed_X4_isLane rfl rfl rfl (by decide +kernel) ⟨Nat.le_of_ble_eq_true rfl, Nat.le_of_ble_eq_true rfl⟩) rr_preT rfl rfl hl.1 rfl (lv_room (Nat.le_of_ble_eq_true rfl)) dX4_rubbed_8 ⟨Nat.zero_le _, Nat.zero_le _⟩) ?_
  refine rb_if_eq (tgt := 23) hx hb dX4_rubbed_11 (by decide) (fun c11 => ?_) (fun c11 => ?_)
  · skip
    refine lv_iconst (v := (-1)) hx hb dX4_rubbed_23 (by decide) ?_
    exact rr_iret hx hb hr hlocks dX4_rubbed_24 (rfl)
  refine lv_iload hx hb dX4_rubbed_14 (lv_at hl 4 rfl) ?_
  refine lv_iconst (v := (nI 2)) hx hb dX4_rubbed_16 (by decide) ?_
  refine rr_callR (va_runS (As := [.int u, .int (nI 2)]) (rest := []) ⟨hx, hb, hml, hown, hts⟩ (c_X4_isBelow l u 2 (by first | assumption | omega)) (va_cwS 2 hts gX4_rubbed_X4_isBelow rfl rfl rfl (by decide +kernel) ⟨Nat.le_of_ble_eq_true rfl, Nat.le_of_ble_eq_true rfl⟩) rr_preT rfl rfl hl.1 rfl (lv_room (Nat.le_of_ble_eq_true rfl)) dX4_rubbed_17 ⟨Nat.zero_le _, Nat.zero_le _⟩) ?_
  refine rb_if_ne (tgt := 25) hx hb dX4_rubbed_20 (by decide) (fun c20 => ?_) (fun c20 => ?_)
  · skip
    exact absurd hbad (by rw [c4, c11, c20]; decide)
  refine lv_iconst (v := (-1)) hx hb dX4_rubbed_23 (by decide) ?_
  exact rr_iret hx hb hr hlocks dX4_rubbed_24 (rfl)
set_option maxHeartbeats 4000000 in
set_option maxRecDepth 100000 in
theorem c_X4_seen_g (l : Launch) (dC : Nat → ClassId) (dI : Nat → Nat → Nat) (cI cJ cS : ClassId) (x0 t0 k0 sa : Nat) (im : Bool) (b0 h3 hk hw hs hrs hpr hpd : Nat) (n h rg sp dr kn nx : Nat) (kf wf sf : Nat → Int32) (Kd Wd Sh Rr Pr Pd : Nat → Nat) (sd sq : Nat → Nat) (sh : Nat) (th : Bool) (ln len : Nat) (row : Nat → Int64) (wl : Int32) (k a t : Nat) (ok : wOk n Kd Wd) (fw : isA n wf Wd) (hs4 : sh < 4) (hlen : len ≤ 24) (hwl : inb wl 4 = true) (hk2 : k < n) (ht1 : 1 ≤ t) (ht8 : t ≤ 8) (href : refI th ln len wl (nI a) (nI (3 * t)) = nI 0) (has : a + 3 * t ≤ 24) : Met l yX4_seen wsX4_seen ({ frames := 5, cells := 0, slots := 0, locals := 123 }) (va_Pc [.ref x0, .int (nI k), .int (nI sh), .int wl, .int (nI a), .int (nI t)] (rB (dC, dI) vwCl [(x0, .inr (4, [.ref t0, .ref b0, .ref k0, .int (bi im), .ref sa])), (b0, .inr (0, [.ref h3, .ref hrs, .int (nI dr), .int (nI kn), .int (nI nx), .ref hpr, .ref hpd])), (h3, .inr (3, [.int (nI n), .int (nI h), .int (nI rg), .int (nI sp), .ref hk, .ref hw, .ref hs])), (hk, .inl (cI, 6, .inl kf)), (hw, .inl (cI, 6, .inl wf)), (hs, .inl (cI, 6, .inl sf)), (hrs, .inl (cI, 24, .inl (nA Rr))), (hpr, .inl (cI, 192, .inl (nA Pr))), (hpd, .inl (cI, 8, .inl (nA Pd))), (sa, .inl (cS, 4, .inr (.inr (.inr (.inr (saF sd)))))), (sd sh, .inr (1, [.int (bi th), .int (nI ln), .int (nI len), .ref (sq sh)])), (sq sh, .inl (cJ, 24, .inr (.inl row)))] (tyz cI cJ cS))) (QcRead (nI (orS (fun kd => skB kd (Wd k) row a t) 5))) 0 0 (fun _ => False) := by
  refine Met.ofW (cc := cX4_seen) (maxL := 8) (ret := (some .int)) (by decide) rfl ?_
  intro p e s m args below meth c s₁ B hml hv
  obtain ⟨rfl, hP, hKK⟩ := hv
  have hK := hKK.1
  have hx := B.exec
  have hb := B.bytes
  have hr := B.returns
  have hts := atoms_spec (ws := wsX4_seen) B.pre
  have hown : s.vm.findClass RX4 = some m.cls := findClass_of_methodNamed B.named
  have hlocks := B.notSynchronized
  have hiX0 : ∀ w ∈ wsX00, w ∈ wsX4_seen := by decide +kernel
  have hiX1 : ∀ w ∈ wsX10, w ∈ wsX4_seen := by decide +kernel
  have hiX3 : ∀ w ∈ wsX30, w ∈ wsX4_seen := by decide +kernel
  have hiX4 : ∀ w ∈ wsX40, w ∈ wsX4_seen := by decide +kernel
  have hl := lv_entry ([.ref x0, .int (nI k), .int (nI sh), .int wl, .int (nI a), .int (nI t)]) (n := 8) (Nat.le_of_ble_eq_true rfl)
  rw [lg_entry_eq]
  generalize (lg_sl ([.ref x0, .int (nI k), .int (nI sh), .int wl, .int (nI a), .int (nI t)]) ++ List.replicate (8 - (lg_sl ([.ref x0, .int (nI k), .int (nI sh), .int wl, .int (nI a), .int (nI t)])).length) Slot.unset).toArray = ls at hl ⊢
  have hl : lv_has ls 8 [(0, .ref x0), (1, .int (nI k)), (2, .int (nI sh)), (3, .int wl), (4, .int (nI a)), (5, .int (nI t))] := hl
  have hn6 := ok.1
  refine lv_aload_n hx hb dX4_seen_0 rfl (lv_at hl 0 rfl) ?_
  refine lv_iload_n hx hb dX4_seen_1 rfl (lv_at hl 1 rfl) ?_
  refine rr_callR (va_runV (As := [.int (nI k)]) (rest := []) ⟨hx, hb, hml, hown, hts⟩ (c_X4_isWheel l dC dI cI cJ cS x0 t0 k0 sa im b0 h3 hk hw hs hrs hpr hpd n h rg sp dr kn nx kf wf sf Kd Wd Sh Rr Pr Pd (nI k) (by first | assumption | omega)) (cwV 1 hts gX4_seen_X4_isWheel rfl rfl rfl (by decide +kernel) ⟨Nat.le_of_ble_eq_true rfl, Nat.le_of_ble_eq_true rfl⟩) (rr_preV hKK (hP.sub [0, 1, 2, 3, 4, 5, 6, 7, 8] rfl) rfl rfl) rfl rfl hl.1 rfl (lv_room (Nat.le_of_ble_eq_true rfl)) dX4_seen_2 ⟨Nat.zero_le _, Nat.zero_le _⟩) ?_
  refine rr_top (y := bi true) (congrArg bi (inb_lt (by omega) (by omega))) ?_
  refine rb_if_eq (tgt := 35) hx hb dX4_seen_5 (by decide) (fun c5 => ?_) (fun c5 => ?_)
  · exact absurd c5 (by decide)
  refine lv_iload_n hx hb dX4_seen_8 rfl (lv_at hl 2 rfl) ?_
  refine rr_callR (va_runS (As := [.int (nI sh)]) (rest := []) ⟨hx, hb, hml, hown, hts⟩ (c_X4_isSheet l (nI sh) ) (va_cwS 1 hts gX4_seen_X4_isSheet rfl rfl rfl (by decide +kernel) ⟨Nat.le_of_ble_eq_true rfl, Nat.le_of_ble_eq_true rfl⟩) rr_preT rfl rfl hl.1 rfl (lv_room (Nat.le_of_ble_eq_true rfl)) dX4_seen_9 ⟨Nat.zero_le _, Nat.zero_le _⟩) ?_
  refine rr_top (y := bi true) (congrArg bi (inb_lt (by omega) (by omega))) ?_
  refine rb_if_eq (tgt := 35) hx hb dX4_seen_12 (by decide) (fun c12 => ?_) (fun c12 => ?_)
  · exact absurd c12 (by decide)
  refine lv_iload_n hx hb dX4_seen_15 rfl (lv_at hl 3 rfl) ?_
  refine rr_callR (va_runS (As := [.int wl]) (rest := []) ⟨hx, hb, hml, hown, hts⟩ (c_X4_isLane l wl ) (va_cwS 1 hts gX4_seen_X4_isLane rfl rfl rfl (by decide +kernel) ⟨Nat.le_of_ble_eq_true rfl, Nat.le_of_ble_eq_true rfl⟩) rr_preT rfl rfl hl.1 rfl (lv_room (Nat.le_of_ble_eq_true rfl)) dX4_seen_16 ⟨Nat.zero_le _, Nat.zero_le _⟩) ?_
  refine rr_top (y := (bi true)) (congrArg bi hwl) ?_
  refine rb_if_eq (tgt := 35) hx hb dX4_seen_19 (by decide) (fun c19 => ?_) (fun c19 => ?_)
  · exact absurd c19 (by decide)
  refine lv_iload hx hb dX4_seen_22 (lv_at hl 5 rfl) ?_
  refine lv_iconst (v := (nI 1)) hx hb dX4_seen_24 (by decide) ?_
  refine rn_icmp_lt (tgt := 35) hx hb dX4_seen_25 (by decide) (by omega) (by omega) (fun c25 => ?_) (fun c25 => ?_)
  · skip
    first | exact absurd c25 (by omega) | exact absurd c32 (by omega)
  refine lv_iload hx hb dX4_seen_28 (lv_at hl 5 rfl) ?_
  refine lv_bipush (v := (nI 8)) hx hb dX4_seen_30 (by decide) ?_
  refine rn_icmp_le (tgt := 37) hx hb dX4_seen_32 (by decide) (by omega) (by omega) (fun c32 => ?_) (fun c32 => ?_)
  · skip
    refine lv_aload_n hx hb dX4_seen_37 rfl (lv_at hl 0 rfl) ?_
    refine va_get (D := (dC, dI)) (ci := 4) (v := .ref sa) (C := RX4) (T := TX4) (N := 5) hx hb hts hiX4 hown hK hP 0 rfl rfl 4 (by decide) (hts (.fieldLink RX4 28 "RestRegisters" "sheets" "[LRestRegisters$Sheet;") (by decide +kernel)) (fun _ h9 => h9) rfl dX4_seen_38 ?_
    refine lv_iload_n hx hb dX4_seen_41 rfl (lv_at hl 2 rfl) ?_
    refine rn_aald hx hb hK hP 9 2 rfl rfl (i := sh) (by omega) (by decide) (v := sd sh) rfl dX4_seen_42 ?_
    refine lv_astore (lv' := [(6, .ref (sd sh)), (0, .ref x0), (1, .int (nI k)), (2, .int (nI sh)), (3, .int wl), (4, .int (nI a)), (5, .int (nI t))]) hx hb dX4_seen_43 hl (by decide) rfl (fun ls hl => ?_)
    refine lv_aload hx hb dX4_seen_45 (lv_at hl 0 rfl) ?_
    refine lv_iload_n hx hb dX4_seen_47 rfl (lv_at hl 4 rfl) ?_
    refine lv_iload hx hb dX4_seen_48 (lv_at hl 5 rfl) ?_
    refine lv_iconst (v := (nI 3)) hx hb dX4_seen_50 (by decide) ?_
    refine lv_iload hx hb dX4_seen_51 (lv_at hl 6 rfl) ?_
    refine rn_imul hx hb dX4_seen_53 ?_
    refine rr_callR (va_runV (As := [.int wl, .int (nI a), .int (nI (3 * t))]) (rest := []) ⟨hx, hb, hml, hown, hts⟩ (c_X1_refusal l dC dI cI cJ cS (sd sh) (sq sh) th ln len row wl (nI a) (nI (3 * t)) (by first | assumption | omega)) (cwV 3 hts gX4_seen_X1_refusal rfl rfl rfl (by decide +kernel) ⟨Nat.le_of_ble_eq_true rfl, Nat.le_of_ble_eq_true rfl⟩) (rr_preV hKK (hP.sub [10, 11] rfl) rfl rfl) rfl rfl hl.1 rfl (lv_room (Nat.le_of_ble_eq_true rfl)) dX4_seen_54 ⟨Nat.zero_le _, Nat.zero_le _⟩) ?_
    refine rr_top (y := nI 0) href ?_
    refine lv_istore (lv' := [(7, .int (nI 0)), (6, .ref (sd sh)), (0, .ref x0), (1, .int (nI k)), (2, .int (nI sh)), (3, .int wl), (4, .int (nI a)), (5, .int (nI t))]) hx hb dX4_seen_57 hl (by decide) rfl (fun ls hl => ?_)
    refine lv_iload hx hb dX4_seen_59 (lv_at hl 0 rfl) ?_
    refine rn_if_eq (tgt := 69) hx hb dX4_seen_61 (by decide) (by omega) (fun c61 => ?_) (fun c61 => ?_)
    · skip
      refine lv_aload_n hx hb dX4_seen_69 rfl (lv_at hl 2 rfl) ?_
      refine va_get (D := (dC, dI)) (ci := 4) (v := .ref b0) (C := RX4) (T := TX4) (N := 5) hx hb hts hiX4 hown hK hP 0 rfl rfl 1 (by decide) (hts (.fieldLink RX4 19 "RestRegisters" "now" "LRestRegisters$Bank;") (by decide +kernel)) (fun _ h9 => h9) rfl dX4_seen_70 ?_
      refine va_get (D := (dC, dI)) (ci := 0) (v := .ref h3) (C := RX0) (T := TX0) (N := 7) hx hb hts hiX0 hown hK hP 1 rfl rfl 0 (by decide) (hts (.fieldLink RX4 61 "RestRegisters$Bank" "wheels" "LRestRegisters$Wheels;") (by decide +kernel)) (fun _ h9 => h9) rfl dX4_seen_73 ?_
      refine va_get (D := (dC, dI)) (ci := 3) (v := .ref hw) (C := RX3) (T := TX3) (N := 7) hx hb hts hiX3 hown hK hP 2 rfl rfl 5 (by decide) (hts (.fieldLink RX4 70 "RestRegisters$Wheels" "widths" "[I") (by decide +kernel)) (fun _ h9 => h9) rfl dX4_seen_76 ?_
      refine lv_iload_n hx hb dX4_seen_79 rfl (lv_at hl 3 rfl) ?_
      refine rn_iald hx hb hK hP 4 0 rfl rfl (i := k) (by omega) (by decide) (v := (nI (Wd k))) (fw k (by omega)) dX4_seen_80 ?_
      have hv80 := ok.2.2.1 k (by omega)
      refine lv_aload hx hb dX4_seen_81 (lv_at hl 1 rfl) ?_
      refine va_get (D := (dC, dI)) (ci := 1) (v := .ref (sq sh)) (C := RX1) (T := TX1) (N := 4) hx hb hts hiX1 hown hK hP 10 rfl rfl 3 (by decide) (hts (.fieldLink RX4 210 "RestRegisters$Sheet" "items" "[J") (by decide +kernel)) (fun _ h9 => h9) rfl dX4_seen_83 ?_
      refine lv_iload hx hb dX4_seen_86 (lv_at hl 6 rfl) ?_
      refine lv_iload hx hb dX4_seen_88 (lv_at hl 7 rfl) ?_
      refine rr_callR (va_runS (As := [.int (nI (Wd k)), .ref (sq sh), .int (nI a), .int (nI t)]) (rest := []) ⟨hx, hb, hml, hown, hts⟩ (c_X3_kindsSeen l dC dI cI cJ cS (Wd k) (sq sh) row a t (by first | assumption | omega) (by first | assumption | omega) (by first | assumption | omega)) (va_cwS 4 hts gX4_seen_X3_kindsSeen rfl rfl rfl (by decide +kernel) ⟨Nat.le_of_ble_eq_true rfl, Nat.le_of_ble_eq_true rfl⟩) (rr_preS hKK (hP.sub [11] rfl)) rfl rfl hl.1 rfl (lv_room (Nat.le_of_ble_eq_true rfl)) dX4_seen_90 ⟨Nat.zero_le _, Nat.zero_le _⟩) ?_
      exact rr_iret hx hb hr hlocks dX4_seen_93 (rfl)
    exact absurd rfl c61
  first | exact absurd c25 (by omega) | exact absurd c32 (by omega)
set_option maxHeartbeats 4000000 in
set_option maxRecDepth 100000 in
theorem c_X4_seen_r (l : Launch) (dC : Nat → ClassId) (dI : Nat → Nat → Nat) (cI cJ cS : ClassId) (x0 t0 k0 sa : Nat) (im : Bool) (b0 h3 hk hw hs hrs hpr hpd : Nat) (n h rg sp dr kn nx : Nat) (kf wf sf : Nat → Int32) (Kd Wd Sh Rr Pr Pd : Nat → Nat) (sd sq : Nat → Nat) (sh : Nat) (th : Bool) (ln len : Nat) (row : Nat → Int64) (wl i : Int32) (k t : Nat) (ok : wOk n Kd Wd) (fw : isA n wf Wd) (hs4 : sh < 4) (hlen : len ≤ 24) (hwl : inb wl 4 = true) (hk2 : k < n) (ht1 : 1 ≤ t) (ht8 : t ≤ 8) (href : ¬ refI th ln len wl i (nI (3 * t)) = nI 0) : Met l yX4_seen wsX4_seen ({ frames := 5, cells := 0, slots := 0, locals := 123 }) (va_Pc [.ref x0, .int (nI k), .int (nI sh), .int wl, .int i, .int (nI t)] (rB (dC, dI) vwCl [(x0, .inr (4, [.ref t0, .ref b0, .ref k0, .int (bi im), .ref sa])), (b0, .inr (0, [.ref h3, .ref hrs, .int (nI dr), .int (nI kn), .int (nI nx), .ref hpr, .ref hpd])), (h3, .inr (3, [.int (nI n), .int (nI h), .int (nI rg), .int (nI sp), .ref hk, .ref hw, .ref hs])), (hk, .inl (cI, 6, .inl kf)), (hw, .inl (cI, 6, .inl wf)), (hs, .inl (cI, 6, .inl sf)), (hrs, .inl (cI, 24, .inl (nA Rr))), (hpr, .inl (cI, 192, .inl (nA Pr))), (hpd, .inl (cI, 8, .inl (nA Pd))), (sa, .inl (cS, 4, .inr (.inr (.inr (.inr (saF sd)))))), (sd sh, .inr (1, [.int (bi th), .int (nI ln), .int (nI len), .ref (sq sh)])), (sq sh, .inl (cJ, 24, .inr (.inl row)))] (tyz cI cJ cS))) (QcRead (refI th ln len wl i (nI (3 * t)))) 0 0 (fun _ => False) := by
  refine Met.ofW (cc := cX4_seen) (maxL := 8) (ret := (some .int)) (by decide) rfl ?_
  intro p e s m args below meth c s₁ B hml hv
  obtain ⟨rfl, hP, hKK⟩ := hv
  have hK := hKK.1
  have hx := B.exec
  have hb := B.bytes
  have hr := B.returns
  have hts := atoms_spec (ws := wsX4_seen) B.pre
  have hown : s.vm.findClass RX4 = some m.cls := findClass_of_methodNamed B.named
  have hlocks := B.notSynchronized
  have hiX0 : ∀ w ∈ wsX00, w ∈ wsX4_seen := by decide +kernel
  have hiX1 : ∀ w ∈ wsX10, w ∈ wsX4_seen := by decide +kernel
  have hiX3 : ∀ w ∈ wsX30, w ∈ wsX4_seen := by decide +kernel
  have hiX4 : ∀ w ∈ wsX40, w ∈ wsX4_seen := by decide +kernel
  have hl := lv_entry ([.ref x0, .int (nI k), .int (nI sh), .int wl, .int i, .int (nI t)]) (n := 8) (Nat.le_of_ble_eq_true rfl)
  rw [lg_entry_eq]
  generalize (lg_sl ([.ref x0, .int (nI k), .int (nI sh), .int wl, .int i, .int (nI t)]) ++ List.replicate (8 - (lg_sl ([.ref x0, .int (nI k), .int (nI sh), .int wl, .int i, .int (nI t)])).length) Slot.unset).toArray = ls at hl ⊢
  have hl : lv_has ls 8 [(0, .ref x0), (1, .int (nI k)), (2, .int (nI sh)), (3, .int wl), (4, .int i), (5, .int (nI t))] := hl
  have hn6 := ok.1
  refine lv_aload_n hx hb dX4_seen_0 rfl (lv_at hl 0 rfl) ?_
  refine lv_iload_n hx hb dX4_seen_1 rfl (lv_at hl 1 rfl) ?_
  refine rr_callR (va_runV (As := [.int (nI k)]) (rest := []) ⟨hx, hb, hml, hown, hts⟩ (c_X4_isWheel l dC dI cI cJ cS x0 t0 k0 sa im b0 h3 hk hw hs hrs hpr hpd n h rg sp dr kn nx kf wf sf Kd Wd Sh Rr Pr Pd (nI k) (by first | assumption | omega)) (cwV 1 hts gX4_seen_X4_isWheel rfl rfl rfl (by decide +kernel) ⟨Nat.le_of_ble_eq_true rfl, Nat.le_of_ble_eq_true rfl⟩) (rr_preV hKK (hP.sub [0, 1, 2, 3, 4, 5, 6, 7, 8] rfl) rfl rfl) rfl rfl hl.1 rfl (lv_room (Nat.le_of_ble_eq_true rfl)) dX4_seen_2 ⟨Nat.zero_le _, Nat.zero_le _⟩) ?_
  refine rr_top (y := bi true) (congrArg bi (inb_lt (by omega) (by omega))) ?_
  refine rb_if_eq (tgt := 35) hx hb dX4_seen_5 (by decide) (fun c5 => ?_) (fun c5 => ?_)
  · exact absurd c5 (by decide)
  refine lv_iload_n hx hb dX4_seen_8 rfl (lv_at hl 2 rfl) ?_
  refine rr_callR (va_runS (As := [.int (nI sh)]) (rest := []) ⟨hx, hb, hml, hown, hts⟩ (c_X4_isSheet l (nI sh) ) (va_cwS 1 hts gX4_seen_X4_isSheet rfl rfl rfl (by decide +kernel) ⟨Nat.le_of_ble_eq_true rfl, Nat.le_of_ble_eq_true rfl⟩) rr_preT rfl rfl hl.1 rfl (lv_room (Nat.le_of_ble_eq_true rfl)) dX4_seen_9 ⟨Nat.zero_le _, Nat.zero_le _⟩) ?_
  refine rr_top (y := bi true) (congrArg bi (inb_lt (by omega) (by omega))) ?_
  refine rb_if_eq (tgt := 35) hx hb dX4_seen_12 (by decide) (fun c12 => ?_) (fun c12 => ?_)
  · exact absurd c12 (by decide)
  refine lv_iload_n hx hb dX4_seen_15 rfl (lv_at hl 3 rfl) ?_
  refine rr_callR (va_runS (As := [.int wl]) (rest := []) ⟨hx, hb, hml, hown, hts⟩ (c_X4_isLane l wl ) (va_cwS 1 hts gX4_seen_X4_isLane rfl rfl rfl (by decide +kernel) ⟨Nat.le_of_ble_eq_true rfl, Nat.le_of_ble_eq_true rfl⟩) rr_preT rfl rfl hl.1 rfl (lv_room (Nat.le_of_ble_eq_true rfl)) dX4_seen_16 ⟨Nat.zero_le _, Nat.zero_le _⟩) ?_
  refine rr_top (y := (bi true)) (congrArg bi hwl) ?_
  refine rb_if_eq (tgt := 35) hx hb dX4_seen_19 (by decide) (fun c19 => ?_) (fun c19 => ?_)
  · exact absurd c19 (by decide)
  refine lv_iload hx hb dX4_seen_22 (lv_at hl 5 rfl) ?_
  refine lv_iconst (v := (nI 1)) hx hb dX4_seen_24 (by decide) ?_
  refine rn_icmp_lt (tgt := 35) hx hb dX4_seen_25 (by decide) (by omega) (by omega) (fun c25 => ?_) (fun c25 => ?_)
  · skip
    first | exact absurd c25 (by omega) | exact absurd c32 (by omega)
  refine lv_iload hx hb dX4_seen_28 (lv_at hl 5 rfl) ?_
  refine lv_bipush (v := (nI 8)) hx hb dX4_seen_30 (by decide) ?_
  refine rn_icmp_le (tgt := 37) hx hb dX4_seen_32 (by decide) (by omega) (by omega) (fun c32 => ?_) (fun c32 => ?_)
  · skip
    refine lv_aload_n hx hb dX4_seen_37 rfl (lv_at hl 0 rfl) ?_
    refine va_get (D := (dC, dI)) (ci := 4) (v := .ref sa) (C := RX4) (T := TX4) (N := 5) hx hb hts hiX4 hown hK hP 0 rfl rfl 4 (by decide) (hts (.fieldLink RX4 28 "RestRegisters" "sheets" "[LRestRegisters$Sheet;") (by decide +kernel)) (fun _ h9 => h9) rfl dX4_seen_38 ?_
    refine lv_iload_n hx hb dX4_seen_41 rfl (lv_at hl 2 rfl) ?_
    refine rn_aald hx hb hK hP 9 2 rfl rfl (i := sh) (by omega) (by decide) (v := sd sh) rfl dX4_seen_42 ?_
    refine lv_astore (lv' := [(6, .ref (sd sh)), (0, .ref x0), (1, .int (nI k)), (2, .int (nI sh)), (3, .int wl), (4, .int i), (5, .int (nI t))]) hx hb dX4_seen_43 hl (by decide) rfl (fun ls hl => ?_)
    refine lv_aload hx hb dX4_seen_45 (lv_at hl 0 rfl) ?_
    refine lv_iload_n hx hb dX4_seen_47 rfl (lv_at hl 4 rfl) ?_
    refine lv_iload hx hb dX4_seen_48 (lv_at hl 5 rfl) ?_
    refine lv_iconst (v := (nI 3)) hx hb dX4_seen_50 (by decide) ?_
    refine lv_iload hx hb dX4_seen_51 (lv_at hl 6 rfl) ?_
    refine rn_imul hx hb dX4_seen_53 ?_
    refine rr_callR (va_runV (As := [.int wl, .int i, .int (nI (3 * t))]) (rest := []) ⟨hx, hb, hml, hown, hts⟩ (c_X1_refusal l dC dI cI cJ cS (sd sh) (sq sh) th ln len row wl i (nI (3 * t)) (by first | assumption | omega)) (cwV 3 hts gX4_seen_X1_refusal rfl rfl rfl (by decide +kernel) ⟨Nat.le_of_ble_eq_true rfl, Nat.le_of_ble_eq_true rfl⟩) (rr_preV hKK (hP.sub [10, 11] rfl) rfl rfl) rfl rfl hl.1 rfl (lv_room (Nat.le_of_ble_eq_true rfl)) dX4_seen_54 ⟨Nat.zero_le _, Nat.zero_le _⟩) ?_
    refine lv_istore (lv' := [(7, .int (refI th ln len wl i (nI (3 * t)))), (6, .ref (sd sh)), (0, .ref x0), (1, .int (nI k)), (2, .int (nI sh)), (3, .int wl), (4, .int i), (5, .int (nI t))]) hx hb dX4_seen_57 hl (by decide) rfl (fun ls hl => ?_)
    refine lv_iload hx hb dX4_seen_59 (lv_at hl 0 rfl) ?_
    refine lv_if_eq (tgt := 69) hx hb dX4_seen_61 (by decide) (fun c61 => ?_) (fun c61 => ?_)
    · skip
      exact absurd (c61.trans nI_0.symm) href
    refine lv_iload hx hb dX4_seen_64 (lv_at hl 0 rfl) ?_
    refine lv_goto (tgt := 93) hx hb dX4_seen_66 (by decide) ?_
    exact rr_iret hx hb hr hlocks dX4_seen_93 (rfl)
  first | exact absurd c25 (by omega) | exact absurd c32 (by omega)
set_option maxHeartbeats 4000000 in
set_option maxRecDepth 100000 in
theorem c_X4_seen_b (l : Launch) (dC : Nat → ClassId) (dI : Nat → Nat → Nat) (cI cJ cS : ClassId) (x0 t0 k0 sa : Nat) (im : Bool) (b0 h3 hk hw hs hrs hpr hpd : Nat) (n h rg sp dr kn nx : Nat) (kf wf sf : Nat → Int32) (Kd Wd Sh Rr Pr Pd : Nat → Nat) (x y z i u : Int32) (ok : wOk n Kd Wd) (hbad : (inb x n && inb y 4 && inb z 4 && inL u.toInt64 1 8) = false) : Met l yX4_seen wsX4_seen ({ frames := 5, cells := 0, slots := 0, locals := 123 }) (va_Pc [.ref x0, .int x, .int y, .int z, .int i, .int u] (rB (dC, dI) vwCl [(x0, .inr (4, [.ref t0, .ref b0, .ref k0, .int (bi im), .ref sa])), (b0, .inr (0, [.ref h3, .ref hrs, .int (nI dr), .int (nI kn), .int (nI nx), .ref hpr, .ref hpd])), (h3, .inr (3, [.int (nI n), .int (nI h), .int (nI rg), .int (nI sp), .ref hk, .ref hw, .ref hs])), (hk, .inl (cI, 6, .inl kf)), (hw, .inl (cI, 6, .inl wf)), (hs, .inl (cI, 6, .inl sf)), (hrs, .inl (cI, 24, .inl (nA Rr))), (hpr, .inl (cI, 192, .inl (nA Pr))), (hpd, .inl (cI, 8, .inl (nA Pd)))] (tyz cI cJ cS))) (QcRead (-1)) 0 0 (fun _ => False) := by
  refine Met.ofW (cc := cX4_seen) (maxL := 8) (ret := (some .int)) (by decide) rfl ?_
  intro p e s m args below meth c s₁ B hml hv
  obtain ⟨rfl, hP, hKK⟩ := hv
  have hK := hKK.1
  have hx := B.exec
  have hb := B.bytes
  have hr := B.returns
  have hts := atoms_spec (ws := wsX4_seen) B.pre
  have hown : s.vm.findClass RX4 = some m.cls := findClass_of_methodNamed B.named
  have hlocks := B.notSynchronized
  have hiX0 : ∀ w ∈ wsX00, w ∈ wsX4_seen := by decide +kernel
  have hiX1 : ∀ w ∈ wsX10, w ∈ wsX4_seen := by decide +kernel
  have hiX3 : ∀ w ∈ wsX30, w ∈ wsX4_seen := by decide +kernel
  have hiX4 : ∀ w ∈ wsX40, w ∈ wsX4_seen := by decide +kernel
  have hl := lv_entry ([.ref x0, .int x, .int y, .int z, .int i, .int u]) (n := 8) (Nat.le_of_ble_eq_true rfl)
  rw [lg_entry_eq]
  generalize (lg_sl ([.ref x0, .int x, .int y, .int z, .int i, .int u]) ++ List.replicate (8 - (lg_sl ([.ref x0, .int x, .int y, .int z, .int i, .int u])).length) Slot.unset).toArray = ls at hl ⊢
  have hl : lv_has ls 8 [(0, .ref x0), (1, .int x), (2, .int y), (3, .int z), (4, .int i), (5, .int u)] := hl
  have hn6 := ok.1
  refine lv_aload_n hx hb dX4_seen_0 rfl (lv_at hl 0 rfl) ?_
  refine lv_iload_n hx hb dX4_seen_1 rfl (lv_at hl 1 rfl) ?_
  refine rr_callR (va_runV (As := [.int x]) (rest := []) ⟨hx, hb, hml, hown, hts⟩ (c_X4_isWheel l dC dI cI cJ cS x0 t0 k0 sa im b0 h3 hk hw hs hrs hpr hpd n h rg sp dr kn nx kf wf sf Kd Wd Sh Rr Pr Pd x (by first | assumption | omega)) (cwV 1 hts gX4_seen_X4_isWheel rfl rfl rfl (by decide +kernel) ⟨Nat.le_of_ble_eq_true rfl, Nat.le_of_ble_eq_true rfl⟩) (rr_preV hKK hP rfl rfl) rfl rfl hl.1 rfl (lv_room (Nat.le_of_ble_eq_true rfl)) dX4_seen_2 ⟨Nat.zero_le _, Nat.zero_le _⟩) ?_
  refine rb_if_eq (tgt := 35) hx hb dX4_seen_5 (by decide) (fun c5 => ?_) (fun c5 => ?_)
  · skip
    refine lv_iconst (v := (-1)) hx hb dX4_seen_35 (by decide) ?_
    exact rr_iret hx hb hr hlocks dX4_seen_36 (rfl)
  refine lv_iload_n hx hb dX4_seen_8 rfl (lv_at hl 2 rfl) ?_
  refine rr_callR (va_runS (As := [.int y]) (rest := []) ⟨hx, hb, hml, hown, hts⟩ (c_X4_isSheet l y ) (va_cwS 1 hts gX4_seen_X4_isSheet rfl rfl rfl (by decide +kernel) ⟨Nat.le_of_ble_eq_true rfl, Nat.le_of_ble_eq_true rfl⟩) rr_preT rfl rfl hl.1 rfl (lv_room (Nat.le_of_ble_eq_true rfl)) dX4_seen_9 ⟨Nat.zero_le _, Nat.zero_le _⟩) ?_
  refine rb_if_eq (tgt := 35) hx hb dX4_seen_12 (by decide) (fun c12 => ?_) (fun c12 => ?_)
  · skip
    refine lv_iconst (v := (-1)) hx hb dX4_seen_35 (by decide) ?_
    exact rr_iret hx hb hr hlocks dX4_seen_36 (rfl)
  refine lv_iload_n hx hb dX4_seen_15 rfl (lv_at hl 3 rfl) ?_
  refine rr_callR (va_runS (As := [.int z]) (rest := []) ⟨hx, hb, hml, hown, hts⟩ (c_X4_isLane l z ) (va_cwS 1 hts gX4_seen_X4_isLane rfl rfl rfl (by decide +kernel) ⟨Nat.le_of_ble_eq_true rfl, Nat.le_of_ble_eq_true rfl⟩) rr_preT rfl rfl hl.1 rfl (lv_room (Nat.le_of_ble_eq_true rfl)) dX4_seen_16 ⟨Nat.zero_le _, Nat.zero_le _⟩) ?_
  refine rb_if_eq (tgt := 35) hx hb dX4_seen_19 (by decide) (fun c19 => ?_) (fun c19 => ?_)
  · skip
    refine lv_iconst (v := (-1)) hx hb dX4_seen_35 (by decide) ?_
    exact rr_iret hx hb hr hlocks dX4_seen_36 (rfl)
  refine lv_iload hx hb dX4_seen_22 (lv_at hl 5 rfl) ?_
  refine lv_iconst (v := (nI 1)) hx hb dX4_seen_24 (by decide) ?_
  refine lv_icmp_lt (tgt := 35) hx hb dX4_seen_25 (by decide) (fun c25 => ?_) (fun c25 => ?_)
  · skip
    refine lv_iconst (v := (-1)) hx hb dX4_seen_35 (by decide) ?_
    exact rr_iret hx hb hr hlocks dX4_seen_36 (rfl)
  refine lv_iload hx hb dX4_seen_28 (lv_at hl 5 rfl) ?_
  refine lv_bipush (v := (nI 8)) hx hb dX4_seen_30 (by decide) ?_
  refine lv_icmp_le (tgt := 37) hx hb dX4_seen_32 (by decide) (fun c32 => ?_) (fun c32 => ?_)
  · skip
    cases hu : inL u.toInt64 1 8; exact absurd (sn_bad hu c25 c32) id; exact absurd hbad (by rw [c5, c12, c19, hu]; decide)
  refine lv_iconst (v := (-1)) hx hb dX4_seen_35 (by decide) ?_
  exact rr_iret hx hb hr hlocks dX4_seen_36 (rfl)
set_option maxHeartbeats 4000000 in
set_option maxRecDepth 100000 in
theorem c_X4_film_g (l : Launch) (dC : Nat → ClassId) (dI : Nat → Nat → Nat) (cI cJ cS : ClassId) (sz : Nat) (x0 t0 k0 sa : Nat) (im : Bool) (b0 h3 hk hw hs hrs hpr hpd : Nat) (n h rg sp dr kn nx : Nat) (kf wf sf : Nat → Int32) (Kd Wd Sh Rr Pr Pd : Nat → Nat) (sd sq : Nat → Nat) (sh : Nat) (th : Bool) (ln len : Nat) (row : Nat → Int64) (wl : Int32) (r a : Nat) (ok : wOk n Kd Wd) (hs4 : sh < 4) (hlen : len ≤ 24) (hr4 : r < 4) (hwl : inb wl 4 = true) (href : refI th ln len wl (nI a) (nI n) = nI 0) (has : a + n ≤ 24) : Met l yX4_film wsX4_film ({ frames := 2, cells := 0, slots := 0, locals := 45 }) (va_Pc [.ref x0, .int (nI r), .int (nI sh), .int wl, .int (nI a)] (rW (dC, dI) vwCl [(x0, .inr (4, [.ref t0, .ref b0, .ref k0, .int (bi im), .ref sa])), (b0, .inr (0, [.ref h3, .ref hrs, .int (nI dr), .int (nI kn), .int (nI nx), .ref hpr, .ref hpd])), (h3, .inr (3, [.int (nI n), .int (nI h), .int (nI rg), .int (nI sp), .ref hk, .ref hw, .ref hs])), (hk, .inl (cI, 6, .inl kf)), (hw, .inl (cI, 6, .inl wf)), (hs, .inl (cI, 6, .inl sf)), (hrs, .inl (cI, 24, .inl (nA Rr))), (hpr, .inl (cI, 192, .inl (nA Pr))), (hpd, .inl (cI, 8, .inl (nA Pd))), (sa, .inl (cS, 4, .inr (.inr (.inr (.inr (saF sd)))))), (sd sh, .inr (1, [.int (bi th), .int (nI ln), .int (nI len), .ref (sq sh)])), (sq sh, .inl (cJ, 24, .inr (.inl row)))] (tyz cI cJ cS) sz)) (qI (nI n) (dC, dI) vwCl [(x0, .inr (4, [.ref t0, .ref b0, .ref k0, .int (bi im), .ref sa])), (b0, .inr (0, [.ref h3, .ref hrs, .int (nI dr), .int (nI kn), .int (nI nx), .ref hpr, .ref hpd])), (h3, .inr (3, [.int (nI n), .int (nI h), .int (nI rg), .int (nI sp), .ref hk, .ref hw, .ref hs])), (hk, .inl (cI, 6, .inl kf)), (hw, .inl (cI, 6, .inl wf)), (hs, .inl (cI, 6, .inl sf)), (hrs, .inl (cI, 24, .inl (nA Rr))), (hpr, .inl (cI, 192, .inl (nA Pr))), (hpd, .inl (cI, 8, .inl (nA Pd))), (sa, .inl (cS, 4, .inr (.inr (.inr (.inr (saF sd)))))), (sd sh, .inr (1, [.int (bi th), .int (nI ln), .int (nI len), .ref (sq sh)])), (sq sh, .inl (cJ, 24, .inr (.inl (flI row a (fun k => (nI (Rr (r * 6 + k))).toInt64) n))))] (va_A [(x0, .inr (4, [.ref t0, .ref b0, .ref k0, .int (bi im), .ref sa])), (b0, .inr (0, [.ref h3, .ref hrs, .int (nI dr), .int (nI kn), .int (nI nx), .ref hpr, .ref hpd])), (h3, .inr (3, [.int (nI n), .int (nI h), .int (nI rg), .int (nI sp), .ref hk, .ref hw, .ref hs])), (hk, .inl (cI, 6, .inl kf)), (hw, .inl (cI, 6, .inl wf)), (hs, .inl (cI, 6, .inl sf)), (hrs, .inl (cI, 24, .inl (nA Rr))), (hpr, .inl (cI, 192, .inl (nA Pr))), (hpd, .inl (cI, 8, .inl (nA Pd))), (sa, .inl (cS, 4, .inr (.inr (.inr (.inr (saF sd)))))), (sd sh, .inr (1, [.int (bi th), .int (nI ln), .int (nI len), .ref (sq sh)])), (sq sh, .inl (cJ, 24, .inr (.inl row)))] sz)) 0 0 (va_A [(x0, .inr (4, [.ref t0, .ref b0, .ref k0, .int (bi im), .ref sa])), (b0, .inr (0, [.ref h3, .ref hrs, .int (nI dr), .int (nI kn), .int (nI nx), .ref hpr, .ref hpd])), (h3, .inr (3, [.int (nI n), .int (nI h), .int (nI rg), .int (nI sp), .ref hk, .ref hw, .ref hs])), (hk, .inl (cI, 6, .inl kf)), (hw, .inl (cI, 6, .inl wf)), (hs, .inl (cI, 6, .inl sf)), (hrs, .inl (cI, 24, .inl (nA Rr))), (hpr, .inl (cI, 192, .inl (nA Pr))), (hpd, .inl (cI, 8, .inl (nA Pd))), (sa, .inl (cS, 4, .inr (.inr (.inr (.inr (saF sd)))))), (sd sh, .inr (1, [.int (bi th), .int (nI ln), .int (nI len), .ref (sq sh)])), (sq sh, .inl (cJ, 24, .inr (.inl row)))] sz) := by
  refine Met.ofW (cc := cX4_film) (maxL := 9) (ret := (some .int)) (by decide) rfl ?_
  intro p e s m args below meth c s₁ B hml hv
  obtain ⟨rfl, hsz, hP, hKK, hD0⟩ := hv
  have hK := hKK.1
  have hx := B.exec
  have hb := B.bytes
  have hr := B.returns
  have hts := atoms_spec (ws := wsX4_film) B.pre
  have hown : s.vm.findClass RX4 = some m.cls := findClass_of_methodNamed B.named
  have hlocks := B.notSynchronized
  subst hsz
  have hD := hD0.self (sz := s.heap.size)
  generalize hAe : va_A [(x0, .inr (4, [.ref t0, .ref b0, .ref k0, .int (bi im), .ref sa])), (b0, .inr (0, [.ref h3, .ref hrs, .int (nI dr), .int (nI kn), .int (nI nx), .ref hpr, .ref hpd])), (h3, .inr (3, [.int (nI n), .int (nI h), .int (nI rg), .int (nI sp), .ref hk, .ref hw, .ref hs])), (hk, .inl (cI, 6, .inl kf)), (hw, .inl (cI, 6, .inl wf)), (hs, .inl (cI, 6, .inl sf)), (hrs, .inl (cI, 24, .inl (nA Rr))), (hpr, .inl (cI, 192, .inl (nA Pr))), (hpd, .inl (cI, 8, .inl (nA Pd))), (sa, .inl (cS, 4, .inr (.inr (.inr (.inr (saF sd)))))), (sd sh, .inr (1, [.int (bi th), .int (nI ln), .int (nI len), .ref (sq sh)])), (sq sh, .inl (cJ, 24, .inr (.inl row)))] s.heap.size = A at hD ⊢
  have hA : ∀ q : Nat, s.heap.size ≤ q → A q := fun q h => by rw [← hAe]; exact Or.inr h
  have hS : va_S A s.heap s.heap [] := va_S.rf
  have hP : va_P (dC, dI) vwCl [(x0, .inr (4, [.ref t0, .ref b0, .ref k0, .int (bi im), .ref sa])), (b0, .inr (0, [.ref h3, .ref hrs, .int (nI dr), .int (nI kn), .int (nI nx), .ref hpr, .ref hpd])), (h3, .inr (3, [.int (nI n), .int (nI h), .int (nI rg), .int (nI sp), .ref hk, .ref hw, .ref hs])), (hk, .inl (cI, 6, .inl kf)), (hw, .inl (cI, 6, .inl wf)), (hs, .inl (cI, 6, .inl sf)), (hrs, .inl (cI, 24, .inl (nA Rr))), (hpr, .inl (cI, 192, .inl (nA Pr))), (hpd, .inl (cI, 8, .inl (nA Pd))), (sa, .inl (cS, 4, .inr (.inr (.inr (.inr (saF sd)))))), (sd sh, .inr (1, [.int (bi th), .int (nI ln), .int (nI len), .ref (sq sh)])), (sq sh, .inl (cJ, 24, .inr (.inl row)))] s.heap := hP
  have hiX0 : ∀ w ∈ wsX00, w ∈ wsX4_film := by decide +kernel
  have hiX1 : ∀ w ∈ wsX10, w ∈ wsX4_film := by decide +kernel
  have hiX3 : ∀ w ∈ wsX30, w ∈ wsX4_film := by decide +kernel
  have hiX4 : ∀ w ∈ wsX40, w ∈ wsX4_film := by decide +kernel
  have hl := lv_entry ([.ref x0, .int (nI r), .int (nI sh), .int wl, .int (nI a)]) (n := 9) (Nat.le_of_ble_eq_true rfl)
  rw [lg_entry_eq]
  generalize (lg_sl ([.ref x0, .int (nI r), .int (nI sh), .int wl, .int (nI a)]) ++ List.replicate (9 - (lg_sl ([.ref x0, .int (nI r), .int (nI sh), .int wl, .int (nI a)])).length) Slot.unset).toArray = ls at hl ⊢
  have hl : lv_has ls 9 [(0, .ref x0), (1, .int (nI r)), (2, .int (nI sh)), (3, .int wl), (4, .int (nI a))] := hl
  have hn6 := ok.1
  refine lv_iload_n hx hb dX4_film_0 rfl (lv_at hl 1 rfl) ?_
  refine rr_callR (va_runS (As := [.int (nI r)]) (rest := []) ⟨hx, hb, hml, hown, hts⟩ (c_X4_isRegister l (nI r) ) (va_cwS 1 hts gX4_film_X4_isRegister rfl rfl rfl (by decide +kernel) ⟨Nat.le_of_ble_eq_true rfl, Nat.le_of_ble_eq_true rfl⟩) rr_preT rfl rfl hl.1 rfl (lv_room (Nat.le_of_ble_eq_true rfl)) dX4_film_1 ⟨Nat.zero_le _, Nat.zero_le _⟩) ?_
  refine rr_top (y := bi true) (congrArg bi (inb_lt (by omega) (by omega))) ?_
  refine rb_if_eq (tgt := 21) hx hb dX4_film_4 (by decide) (fun c4 => ?_) (fun c4 => ?_)
  · exact absurd c4 (by decide)
  refine lv_iload_n hx hb dX4_film_7 rfl (lv_at hl 2 rfl) ?_
  refine rr_callR (va_runS (As := [.int (nI sh)]) (rest := []) ⟨hx, hb, hml, hown, hts⟩ (c_X4_isSheet l (nI sh) ) (va_cwS 1 hts gX4_film_X4_isSheet rfl rfl rfl (by decide +kernel) ⟨Nat.le_of_ble_eq_true rfl, Nat.le_of_ble_eq_true rfl⟩) rr_preT rfl rfl hl.1 rfl (lv_room (Nat.le_of_ble_eq_true rfl)) dX4_film_8 ⟨Nat.zero_le _, Nat.zero_le _⟩) ?_
  refine rr_top (y := bi true) (congrArg bi (inb_lt (by omega) (by omega))) ?_
  refine rb_if_eq (tgt := 21) hx hb dX4_film_11 (by decide) (fun c11 => ?_) (fun c11 => ?_)
  · exact absurd c11 (by decide)
  refine lv_iload_n hx hb dX4_film_14 rfl (lv_at hl 3 rfl) ?_
  refine rr_callR (va_runS (As := [.int wl]) (rest := []) ⟨hx, hb, hml, hown, hts⟩ (c_X4_isLane l wl ) (va_cwS 1 hts gX4_film_X4_isLane rfl rfl rfl (by decide +kernel) ⟨Nat.le_of_ble_eq_true rfl, Nat.le_of_ble_eq_true rfl⟩) rr_preT rfl rfl hl.1 rfl (lv_room (Nat.le_of_ble_eq_true rfl)) dX4_film_15 ⟨Nat.zero_le _, Nat.zero_le _⟩) ?_
  refine rr_top (y := (bi true)) (congrArg bi hwl) ?_
  refine rb_if_ne (tgt := 23) hx hb dX4_film_18 (by decide) (fun c18 => ?_) (fun c18 => ?_)
  rotate_left
  · exact absurd c18 (by decide)
  refine lv_aload_n hx hb dX4_film_23 rfl (lv_at hl 0 rfl) ?_
  refine va_get (D := (dC, dI)) (ci := 4) (v := .ref sa) (C := RX4) (T := TX4) (N := 5) hx hb hts hiX4 hown hK hP 0 rfl rfl 4 (by decide) (hts (.fieldLink RX4 28 "RestRegisters" "sheets" "[LRestRegisters$Sheet;") (by decide +kernel)) (fun _ h9 => h9) rfl dX4_film_24 ?_
  refine lv_iload_n hx hb dX4_film_27 rfl (lv_at hl 2 rfl) ?_
  refine rn_aald hx hb hK hP 9 2 rfl rfl (i := sh) (by omega) (by decide) (v := sd sh) rfl dX4_film_28 ?_
  refine lv_astore (lv' := [(5, .ref (sd sh)), (0, .ref x0), (1, .int (nI r)), (2, .int (nI sh)), (3, .int wl), (4, .int (nI a))]) hx hb dX4_film_29 hl (by decide) rfl (fun ls hl => ?_)
  refine lv_aload_n hx hb dX4_film_31 rfl (lv_at hl 1 rfl) ?_
  refine va_get (D := (dC, dI)) (ci := 4) (v := .ref b0) (C := RX4) (T := TX4) (N := 5) hx hb hts hiX4 hown hK hP 0 rfl rfl 1 (by decide) (hts (.fieldLink RX4 19 "RestRegisters" "now" "LRestRegisters$Bank;") (by decide +kernel)) (fun _ h9 => h9) rfl dX4_film_32 ?_
  refine va_get (D := (dC, dI)) (ci := 0) (v := .ref h3) (C := RX0) (T := TX0) (N := 7) hx hb hts hiX0 hown hK hP 1 rfl rfl 0 (by decide) (hts (.fieldLink RX4 61 "RestRegisters$Bank" "wheels" "LRestRegisters$Wheels;") (by decide +kernel)) (fun _ h9 => h9) rfl dX4_film_35 ?_
  refine va_get (D := (dC, dI)) (ci := 3) (v := .int (nI n)) (C := RX3) (T := TX3) (N := 7) hx hb hts hiX3 hown hK hP 2 rfl rfl 0 (by decide) (hts (.fieldLink RX4 104 "RestRegisters$Wheels" "size" "I") (by decide +kernel)) (fun _ h9 => h9) rfl dX4_film_38 ?_
  refine lv_istore (lv' := [(6, .int (nI n)), (5, .ref (sd sh)), (0, .ref x0), (1, .int (nI r)), (2, .int (nI sh)), (3, .int wl), (4, .int (nI a))]) hx hb dX4_film_41 hl (by decide) rfl (fun ls hl => ?_)
  refine lv_aload hx hb dX4_film_43 (lv_at hl 1 rfl) ?_
  refine lv_iload_n hx hb dX4_film_45 rfl (lv_at hl 5 rfl) ?_
  refine lv_iload hx hb dX4_film_46 (lv_at hl 6 rfl) ?_
  refine lv_iload hx hb dX4_film_48 (lv_at hl 0 rfl) ?_
  refine rr_callR (va_runV (As := [.int wl, .int (nI a), .int (nI n)]) (rest := []) ⟨hx, hb, hml, hown, hts⟩ (c_X1_refusal l dC dI cI cJ cS (sd sh) (sq sh) th ln len row wl (nI a) (nI n) (by first | assumption | omega)) (cwV 3 hts gX4_film_X1_refusal rfl rfl rfl (by decide +kernel) ⟨Nat.le_of_ble_eq_true rfl, Nat.le_of_ble_eq_true rfl⟩) (rr_preV hKK (hP.sub [10, 11] rfl) rfl rfl) rfl rfl hl.1 rfl (lv_room (Nat.le_of_ble_eq_true rfl)) dX4_film_50 ⟨Nat.zero_le _, Nat.zero_le _⟩) ?_
  refine rr_top (y := nI 0) href ?_
  refine lv_istore (lv' := [(7, .int (nI 0)), (6, .int (nI n)), (5, .ref (sd sh)), (0, .ref x0), (1, .int (nI r)), (2, .int (nI sh)), (3, .int wl), (4, .int (nI a))]) hx hb dX4_film_53 hl (by decide) rfl (fun ls hl => ?_)
  refine lv_iload hx hb dX4_film_55 (lv_at hl 0 rfl) ?_
  refine rn_if_eq (tgt := 63) hx hb dX4_film_57 (by decide) (by omega) (fun c57 => ?_) (fun c57 => ?_)
  · skip
    refine lv_iconst (v := (nI 0)) hx hb dX4_film_63 (by decide) ?_
    refine lv_istore (lv' := [(8, .int (nI 0)), (7, .int (nI 0)), (6, .int (nI n)), (5, .ref (sd sh)), (0, .ref x0), (1, .int (nI r)), (2, .int (nI sh)), (3, .int wl), (4, .int (nI a))]) hx hb dX4_film_64 hl (by decide) rfl (fun ls hl => ?_)
    have ec : row = flI row a (fun k => (nI (Rr (r * 6 + k))).toInt64) 0 := flI_0 _ _ _
    rw [ec] at hP hD
    have hP : va_P (dC, dI) vwCl [(x0, .inr (4, [.ref t0, .ref b0, .ref k0, .int (bi im), .ref sa])), (b0, .inr (0, [.ref h3, .ref hrs, .int (nI dr), .int (nI kn), .int (nI nx), .ref hpr, .ref hpd])), (h3, .inr (3, [.int (nI n), .int (nI h), .int (nI rg), .int (nI sp), .ref hk, .ref hw, .ref hs])), (hk, .inl (cI, 6, .inl kf)), (hw, .inl (cI, 6, .inl wf)), (hs, .inl (cI, 6, .inl sf)), (hrs, .inl (cI, 24, .inl (nA Rr))), (hpr, .inl (cI, 192, .inl (nA Pr))), (hpd, .inl (cI, 8, .inl (nA Pd))), (sa, .inl (cS, 4, .inr (.inr (.inr (.inr (saF sd)))))), (sd sh, .inr (1, [.int (bi th), .int (nI ln), .int (nI len), .ref (sq sh)])), (sq sh, .inl (cJ, 24, .inr (.inl (flI row a (fun k => (nI (Rr (r * 6 + k))).toInt64) 0))))] s.heap := hP
    have hD : va_D A [(x0, .inr (4, [.ref t0, .ref b0, .ref k0, .int (bi im), .ref sa])), (b0, .inr (0, [.ref h3, .ref hrs, .int (nI dr), .int (nI kn), .int (nI nx), .ref hpr, .ref hpd])), (h3, .inr (3, [.int (nI n), .int (nI h), .int (nI rg), .int (nI sp), .ref hk, .ref hw, .ref hs])), (hk, .inl (cI, 6, .inl kf)), (hw, .inl (cI, 6, .inl wf)), (hs, .inl (cI, 6, .inl sf)), (hrs, .inl (cI, 24, .inl (nA Rr))), (hpr, .inl (cI, 192, .inl (nA Pr))), (hpd, .inl (cI, 8, .inl (nA Pd))), (sa, .inl (cS, 4, .inr (.inr (.inr (.inr (saF sd)))))), (sd sh, .inr (1, [.int (bi th), .int (nI ln), .int (nI len), .ref (sq sh)])), (sq sh, .inl (cJ, 24, .inr (.inl (flI row a (fun k => (nI (Rr (r * 6 + k))).toInt64) 0))))] := hD
    refine rlW1 (A1 := Nat) (fun H locs ls => W p l e _ s m _ below meth c H locs 0 0 _ (F0 m 66 ls [])) (fun k H locs ls => k ≤ n ∧ va_P (dC, dI) vwCl [(x0, .inr (4, [.ref t0, .ref b0, .ref k0, .int (bi im), .ref sa])), (b0, .inr (0, [.ref h3, .ref hrs, .int (nI dr), .int (nI kn), .int (nI nx), .ref hpr, .ref hpd])), (h3, .inr (3, [.int (nI n), .int (nI h), .int (nI rg), .int (nI sp), .ref hk, .ref hw, .ref hs])), (hk, .inl (cI, 6, .inl kf)), (hw, .inl (cI, 6, .inl wf)), (hs, .inl (cI, 6, .inl sf)), (hrs, .inl (cI, 24, .inl (nA Rr))), (hpr, .inl (cI, 192, .inl (nA Pr))), (hpd, .inl (cI, 8, .inl (nA Pd))), (sa, .inl (cS, 4, .inr (.inr (.inr (.inr (saF sd)))))), (sd sh, .inr (1, [.int (bi th), .int (nI ln), .int (nI len), .ref (sq sh)])), (sq sh, .inl (cJ, 24, .inr (.inl (flI row a (fun k => (nI (Rr (r * 6 + k))).toInt64) k))))] H ∧ va_D A [(x0, .inr (4, [.ref t0, .ref b0, .ref k0, .int (bi im), .ref sa])), (b0, .inr (0, [.ref h3, .ref hrs, .int (nI dr), .int (nI kn), .int (nI nx), .ref hpr, .ref hpd])), (h3, .inr (3, [.int (nI n), .int (nI h), .int (nI rg), .int (nI sp), .ref hk, .ref hw, .ref hs])), (hk, .inl (cI, 6, .inl kf)), (hw, .inl (cI, 6, .inl wf)), (hs, .inl (cI, 6, .inl sf)), (hrs, .inl (cI, 24, .inl (nA Rr))), (hpr, .inl (cI, 192, .inl (nA Pr))), (hpd, .inl (cI, 8, .inl (nA Pd))), (sa, .inl (cS, 4, .inr (.inr (.inr (.inr (saF sd)))))), (sd sh, .inr (1, [.int (bi th), .int (nI ln), .int (nI len), .ref (sq sh)])), (sq sh, .inl (cJ, 24, .inr (.inl (flI row a (fun k => (nI (Rr (r * 6 + k))).toInt64) k))))] ∧ va_S A s.heap H locs ∧ lv_has ls 9 [(8, .int (nI k)), (7, .int (nI 0)), (6, .int (nI n)), (5, .ref (sd sh)), (0, .ref x0), (1, .int (nI r)), (2, .int (nI sh)), (3, .int wl), (4, .int (nI a))]) (fun k => n - k) ?_ 0 _ _ ls ⟨by omega, hP, hD, hS, lv_sub hl [0, 1, 2, 3, 4, 5, 6, 7, 8] rfl⟩
    rintro k H locs ls ⟨hi, hP, hD, hS, hl⟩ ih66
    refine lv_iload hx hb dX4_film_66 (lv_at hl 0 rfl) ?_
    refine lv_iload hx hb dX4_film_68 (lv_at hl 2 rfl) ?_
    refine rn_icmp_ge (tgt := 101) hx hb dX4_film_70 (by decide) (by omega) (by omega) (fun c70 => ?_) (fun c70 => ?_)
    · skip
      have ek : k = n := Nat.le_antisymm hi c70
      subst ek
      refine lv_iload hx hb dX4_film_101 (lv_at hl 2 rfl) ?_
      exact rr_iretW hx hb hr hlocks dX4_film_103 hP hD hS (rfl)
    refine lv_aload hx hb dX4_film_73 (lv_at hl 3 rfl) ?_
    refine va_get (D := (dC, dI)) (ci := 1) (v := .ref (sq sh)) (C := RX1) (T := TX1) (N := 4) hx hb hts hiX1 hown hK hP 10 rfl rfl 3 (by decide) (hts (.fieldLink RX4 210 "RestRegisters$Sheet" "items" "[J") (by decide +kernel)) (fun _ h9 => h9) rfl dX4_film_75 ?_
    refine lv_iload hx hb dX4_film_78 (lv_at hl 8 rfl) ?_
    refine lv_iload hx hb dX4_film_80 (lv_at hl 0 rfl) ?_
    refine rn_iadd hx hb dX4_film_82 ?_
    refine lv_aload_n hx hb dX4_film_83 rfl (lv_at hl 4 rfl) ?_
    refine va_get (D := (dC, dI)) (ci := 4) (v := .ref b0) (C := RX4) (T := TX4) (N := 5) hx hb hts hiX4 hown hK hP 0 rfl rfl 1 (by decide) (hts (.fieldLink RX4 19 "RestRegisters" "now" "LRestRegisters$Bank;") (by decide +kernel)) (fun _ h9 => h9) rfl dX4_film_84 ?_
    refine lv_iload_n hx hb dX4_film_87 rfl (lv_at hl 5 rfl) ?_
    refine lv_iload hx hb dX4_film_88 (lv_at hl 0 rfl) ?_
    refine rr_callR (va_runV (As := [.int (nI r), .int (nI k)]) (rest := [.int (nI (a + k)), .ref (sq sh)]) ⟨hx, hb, hml, hown, hts⟩ (c_X0_shown l dC dI cI cJ cS b0 h3 hrs hpr hpd dr kn nx Rr r k (by first | assumption | omega) (by first | assumption | omega)) (cwV 2 hts gX4_film_X0_shown rfl rfl rfl (by decide +kernel) ⟨Nat.le_of_ble_eq_true rfl, Nat.le_of_ble_eq_true rfl⟩) (rr_preV hKK (hP.sub [1, 6] rfl) rfl rfl) rfl rfl hl.1 rfl (lv_room (Nat.le_of_ble_eq_true rfl)) dX4_film_90 ⟨Nat.zero_le _, Nat.zero_le _⟩) ?_
    refine lv_i2l hx hb dX4_film_93 rfl ?_
    refine rn_last hx hb hK hP hD hS 11 1 rfl rfl (i := a + k) (by omega) (by decide) (g := flI row a (fun k => (nI (Rr (r * 6 + k))).toInt64) (k + 1)) (flI_s rfl rfl) dX4_film_94 (fun H locs hP hD hS => ?_)
    have hP : va_P (dC, dI) vwCl [(x0, .inr (4, [.ref t0, .ref b0, .ref k0, .int (bi im), .ref sa])), (b0, .inr (0, [.ref h3, .ref hrs, .int (nI dr), .int (nI kn), .int (nI nx), .ref hpr, .ref hpd])), (h3, .inr (3, [.int (nI n), .int (nI h), .int (nI rg), .int (nI sp), .ref hk, .ref hw, .ref hs])), (hk, .inl (cI, 6, .inl kf)), (hw, .inl (cI, 6, .inl wf)), (hs, .inl (cI, 6, .inl sf)), (hrs, .inl (cI, 24, .inl (nA Rr))), (hpr, .inl (cI, 192, .inl (nA Pr))), (hpd, .inl (cI, 8, .inl (nA Pd))), (sa, .inl (cS, 4, .inr (.inr (.inr (.inr (saF sd)))))), (sd sh, .inr (1, [.int (bi th), .int (nI ln), .int (nI len), .ref (sq sh)])), (sq sh, .inl (cJ, 24, .inr (.inl (flI row a (fun k => (nI (Rr (r * 6 + k))).toInt64) (k + 1)))))] H := hP
    have hD : va_D A [(x0, .inr (4, [.ref t0, .ref b0, .ref k0, .int (bi im), .ref sa])), (b0, .inr (0, [.ref h3, .ref hrs, .int (nI dr), .int (nI kn), .int (nI nx), .ref hpr, .ref hpd])), (h3, .inr (3, [.int (nI n), .int (nI h), .int (nI rg), .int (nI sp), .ref hk, .ref hw, .ref hs])), (hk, .inl (cI, 6, .inl kf)), (hw, .inl (cI, 6, .inl wf)), (hs, .inl (cI, 6, .inl sf)), (hrs, .inl (cI, 24, .inl (nA Rr))), (hpr, .inl (cI, 192, .inl (nA Pr))), (hpd, .inl (cI, 8, .inl (nA Pd))), (sa, .inl (cS, 4, .inr (.inr (.inr (.inr (saF sd)))))), (sd sh, .inr (1, [.int (bi th), .int (nI ln), .int (nI len), .ref (sq sh)])), (sq sh, .inl (cJ, 24, .inr (.inl (flI row a (fun k => (nI (Rr (r * 6 + k))).toInt64) (k + 1)))))] := hD
    refine lv_iinc (v := (nI (k + 1))) (lv' := [(8, .int (nI (k + 1))), (7, .int (nI 0)), (6, .int (nI n)), (5, .ref (sd sh)), (0, .ref x0), (1, .int (nI r)), (2, .int (nI sh)), (3, .int wl), (4, .int (nI a))]) hx hb dX4_film_95 hl (k := 0) rfl (rn_inc k 1) (by decide) rfl (fun ls hl => ?_)
    refine lv_goto (tgt := 66) hx hb dX4_film_98 (by decide) ?_
    exact ih66 (k + 1) _ _ ls ⟨by omega, hP, hD, hS, lv_sub hl [0, 1, 2, 3, 4, 5, 6, 7, 8] rfl⟩ (by omega)
  exact absurd rfl c57
set_option maxHeartbeats 4000000 in
set_option maxRecDepth 100000 in
theorem c_X4_film_r (l : Launch) (dC : Nat → ClassId) (dI : Nat → Nat → Nat) (cI cJ cS : ClassId) (x0 t0 k0 sa : Nat) (im : Bool) (b0 h3 hk hw hs hrs hpr hpd : Nat) (n h rg sp dr kn nx : Nat) (kf wf sf : Nat → Int32) (Kd Wd Sh Rr Pr Pd : Nat → Nat) (sd sq : Nat → Nat) (sh : Nat) (th : Bool) (ln len : Nat) (row : Nat → Int64) (wl i : Int32) (r : Nat) (ok : wOk n Kd Wd) (hs4 : sh < 4) (hlen : len ≤ 24) (hr4 : r < 4) (hwl : inb wl 4 = true) (href : ¬ refI th ln len wl i (nI n) = nI 0) : Met l yX4_film wsX4_film ({ frames := 2, cells := 0, slots := 0, locals := 45 }) (va_Pc [.ref x0, .int (nI r), .int (nI sh), .int wl, .int i] (rB (dC, dI) vwCl [(x0, .inr (4, [.ref t0, .ref b0, .ref k0, .int (bi im), .ref sa])), (b0, .inr (0, [.ref h3, .ref hrs, .int (nI dr), .int (nI kn), .int (nI nx), .ref hpr, .ref hpd])), (h3, .inr (3, [.int (nI n), .int (nI h), .int (nI rg), .int (nI sp), .ref hk, .ref hw, .ref hs])), (hk, .inl (cI, 6, .inl kf)), (hw, .inl (cI, 6, .inl wf)), (hs, .inl (cI, 6, .inl sf)), (hrs, .inl (cI, 24, .inl (nA Rr))), (hpr, .inl (cI, 192, .inl (nA Pr))), (hpd, .inl (cI, 8, .inl (nA Pd))), (sa, .inl (cS, 4, .inr (.inr (.inr (.inr (saF sd)))))), (sd sh, .inr (1, [.int (bi th), .int (nI ln), .int (nI len), .ref (sq sh)])), (sq sh, .inl (cJ, 24, .inr (.inl row)))] (tyz cI cJ cS))) (QcRead (refI th ln len wl i (nI n))) 0 0 (fun _ => False) := by
  refine Met.ofW (cc := cX4_film) (maxL := 9) (ret := (some .int)) (by decide) rfl ?_
  intro p e s m args below meth c s₁ B hml hv
  obtain ⟨rfl, hP, hKK⟩ := hv
  have hK := hKK.1
  have hx := B.exec
  have hb := B.bytes
  have hr := B.returns
  have hts := atoms_spec (ws := wsX4_film) B.pre
  have hown : s.vm.findClass RX4 = some m.cls := findClass_of_methodNamed B.named
  have hlocks := B.notSynchronized
  have hiX0 : ∀ w ∈ wsX00, w ∈ wsX4_film := by decide +kernel
  have hiX1 : ∀ w ∈ wsX10, w ∈ wsX4_film := by decide +kernel
  have hiX3 : ∀ w ∈ wsX30, w ∈ wsX4_film := by decide +kernel
  have hiX4 : ∀ w ∈ wsX40, w ∈ wsX4_film := by decide +kernel
  have hl := lv_entry ([.ref x0, .int (nI r), .int (nI sh), .int wl, .int i]) (n := 9) (Nat.le_of_ble_eq_true rfl)
  rw [lg_entry_eq]
  generalize (lg_sl ([.ref x0, .int (nI r), .int (nI sh), .int wl, .int i]) ++ List.replicate (9 - (lg_sl ([.ref x0, .int (nI r), .int (nI sh), .int wl, .int i])).length) Slot.unset).toArray = ls at hl ⊢
  have hl : lv_has ls 9 [(0, .ref x0), (1, .int (nI r)), (2, .int (nI sh)), (3, .int wl), (4, .int i)] := hl
  refine lv_iload_n hx hb dX4_film_0 rfl (lv_at hl 1 rfl) ?_
  refine rr_callR (va_runS (As := [.int (nI r)]) (rest := []) ⟨hx, hb, hml, hown, hts⟩ (c_X4_isRegister l (nI r) ) (va_cwS 1 hts gX4_film_X4_isRegister rfl rfl rfl (by decide +kernel) ⟨Nat.le_of_ble_eq_true rfl, Nat.le_of_ble_eq_true rfl⟩) rr_preT rfl rfl hl.1 rfl (lv_room (Nat.le_of_ble_eq_true rfl)) dX4_film_1 ⟨Nat.zero_le _, Nat.zero_le _⟩) ?_
  refine rr_top (y := bi true) (congrArg bi (inb_lt (by omega) (by omega))) ?_
  refine rb_if_eq (tgt := 21) hx hb dX4_film_4 (by decide) (fun c4 => ?_) (fun c4 => ?_)
  · exact absurd c4 (by decide)
  refine lv_iload_n hx hb dX4_film_7 rfl (lv_at hl 2 rfl) ?_
  refine rr_callR (va_runS (As := [.int (nI sh)]) (rest := []) ⟨hx, hb, hml, hown, hts⟩ (c_X4_isSheet l (nI sh) ) (va_cwS 1 hts gX4_film_X4_isSheet rfl rfl rfl (by decide +kernel) ⟨Nat.le_of_ble_eq_true rfl, Nat.le_of_ble_eq_true rfl⟩) rr_preT rfl rfl hl.1 rfl (lv_room (Nat.le_of_ble_eq_true rfl)) dX4_film_8 ⟨Nat.zero_le _, Nat.zero_le _⟩) ?_
  refine rr_top (y := bi true) (congrArg bi (inb_lt (by omega) (by omega))) ?_
  refine rb_if_eq (tgt := 21) hx hb dX4_film_11 (by decide) (fun c11 => ?_) (fun c11 => ?_)
  · exact absurd c11 (by decide)
  refine lv_iload_n hx hb dX4_film_14 rfl (lv_at hl 3 rfl) ?_
  refine rr_callR (va_runS (As := [.int wl]) (rest := []) ⟨hx, hb, hml, hown, hts⟩ (c_X4_isLane l wl ) (va_cwS 1 hts gX4_film_X4_isLane rfl rfl rfl (by decide +kernel) ⟨Nat.le_of_ble_eq_true rfl, Nat.le_of_ble_eq_true rfl⟩) rr_preT rfl rfl hl.1 rfl (lv_room (Nat.le_of_ble_eq_true rfl)) dX4_film_15 ⟨Nat.zero_le _, Nat.zero_le _⟩) ?_
  refine rr_top (y := (bi true)) (congrArg bi hwl) ?_
  refine rb_if_ne (tgt := 23) hx hb dX4_film_18 (by decide) (fun c18 => ?_) (fun c18 => ?_)
  rotate_left
  · exact absurd c18 (by decide)
  refine lv_aload_n hx hb dX4_film_23 rfl (lv_at hl 0 rfl) ?_
  refine va_get (D := (dC, dI)) (ci := 4) (v := .ref sa) (C := RX4) (T := TX4) (N := 5) hx hb hts hiX4 hown hK hP 0 rfl rfl 4 (by decide) (hts (.fieldLink RX4 28 "RestRegisters" "sheets" "[LRestRegisters$Sheet;") (by decide +kernel)) (fun _ h9 => h9) rfl dX4_film_24 ?_
  refine lv_iload_n hx hb dX4_film_27 rfl (lv_at hl 2 rfl) ?_
  refine rn_aald hx hb hK hP 9 2 rfl rfl (i := sh) (by omega) (by decide) (v := sd sh) rfl dX4_film_28 ?_
  refine lv_astore (lv' := [(5, .ref (sd sh)), (0, .ref x0), (1, .int (nI r)), (2, .int (nI sh)), (3, .int wl), (4, .int i)]) hx hb dX4_film_29 hl (by decide) rfl (fun ls hl => ?_)
  refine lv_aload_n hx hb dX4_film_31 rfl (lv_at hl 1 rfl) ?_
  refine va_get (D := (dC, dI)) (ci := 4) (v := .ref b0) (C := RX4) (T := TX4) (N := 5) hx hb hts hiX4 hown hK hP 0 rfl rfl 1 (by decide) (hts (.fieldLink RX4 19 "RestRegisters" "now" "LRestRegisters$Bank;") (by decide +kernel)) (fun _ h9 => h9) rfl dX4_film_32 ?_
  refine va_get (D := (dC, dI)) (ci := 0) (v := .ref h3) (C := RX0) (T := TX0) (N := 7) hx hb hts hiX0 hown hK hP 1 rfl rfl 0 (by decide) (hts (.fieldLink RX4 61 "RestRegisters$Bank" "wheels" "LRestRegisters$Wheels;") (by decide +kernel)) (fun _ h9 => h9) rfl dX4_film_35 ?_
  refine va_get (D := (dC, dI)) (ci := 3) (v := .int (nI n)) (C := RX3) (T := TX3) (N := 7) hx hb hts hiX3 hown hK hP 2 rfl rfl 0 (by decide) (hts (.fieldLink RX4 104 "RestRegisters$Wheels" "size" "I") (by decide +kernel)) (fun _ h9 => h9) rfl dX4_film_38 ?_
  refine lv_istore (lv' := [(6, .int (nI n)), (5, .ref (sd sh)), (0, .ref x0), (1, .int (nI r)), (2, .int (nI sh)), (3, .int wl), (4, .int i)]) hx hb dX4_film_41 hl (by decide) rfl (fun ls hl => ?_)
  refine lv_aload hx hb dX4_film_43 (lv_at hl 1 rfl) ?_
  refine lv_iload_n hx hb dX4_film_45 rfl (lv_at hl 5 rfl) ?_
  refine lv_iload hx hb dX4_film_46 (lv_at hl 6 rfl) ?_
  refine lv_iload hx hb dX4_film_48 (lv_at hl 0 rfl) ?_
  refine rr_callR (va_runV (As := [.int wl, .int i, .int (nI n)]) (rest := []) ⟨hx, hb, hml, hown, hts⟩ (c_X1_refusal l dC dI cI cJ cS (sd sh) (sq sh) th ln len row wl i (nI n) (by first | assumption | omega)) (cwV 3 hts gX4_film_X1_refusal rfl rfl rfl (by decide +kernel) ⟨Nat.le_of_ble_eq_true rfl, Nat.le_of_ble_eq_true rfl⟩) (rr_preV hKK (hP.sub [10, 11] rfl) rfl rfl) rfl rfl hl.1 rfl (lv_room (Nat.le_of_ble_eq_true rfl)) dX4_film_50 ⟨Nat.zero_le _, Nat.zero_le _⟩) ?_
  refine lv_istore (lv' := [(7, .int (refI th ln len wl i (nI n))), (6, .int (nI n)), (5, .ref (sd sh)), (0, .ref x0), (1, .int (nI r)), (2, .int (nI sh)), (3, .int wl), (4, .int i)]) hx hb dX4_film_53 hl (by decide) rfl (fun ls hl => ?_)
  refine lv_iload hx hb dX4_film_55 (lv_at hl 0 rfl) ?_
  refine lv_if_eq (tgt := 63) hx hb dX4_film_57 (by decide) (fun c57 => ?_) (fun c57 => ?_)
  · skip
    exact absurd (c57.trans nI_0.symm) href
  refine lv_iload hx hb dX4_film_60 (lv_at hl 0 rfl) ?_
  exact rr_iret hx hb hr hlocks dX4_film_62 (rfl)
set_option maxHeartbeats 4000000 in
set_option maxRecDepth 100000 in
theorem c_X4_film_b (l : Launch) (dC : Nat → ClassId) (dI : Nat → Nat → Nat) (cI cJ cS : ClassId) (x0 t0 k0 sa : Nat) (im : Bool) (b0 h3 hk hw hs hrs hpr hpd : Nat) (n h rg sp dr kn nx : Nat) (kf wf sf : Nat → Int32) (Kd Wd Sh Rr Pr Pd : Nat → Nat) (x y z i : Int32) (hbad : (inb x 4 && inb y 4 && inb z 4) = false) : Met l yX4_film wsX4_film ({ frames := 2, cells := 0, slots := 0, locals := 45 }) (va_Pc [.ref x0, .int x, .int y, .int z, .int i] (rB (dC, dI) vwCl [(x0, .inr (4, [.ref t0, .ref b0, .ref k0, .int (bi im), .ref sa])), (b0, .inr (0, [.ref h3, .ref hrs, .int (nI dr), .int (nI kn), .int (nI nx), .ref hpr, .ref hpd])), (h3, .inr (3, [.int (nI n), .int (nI h), .int (nI rg), .int (nI sp), .ref hk, .ref hw, .ref hs])), (hk, .inl (cI, 6, .inl kf)), (hw, .inl (cI, 6, .inl wf)), (hs, .inl (cI, 6, .inl sf)), (hrs, .inl (cI, 24, .inl (nA Rr))), (hpr, .inl (cI, 192, .inl (nA Pr))), (hpd, .inl (cI, 8, .inl (nA Pd)))] (tyz cI cJ cS))) (QcRead (-1)) 0 0 (fun _ => False) := by
  refine Met.ofW (cc := cX4_film) (maxL := 9) (ret := (some .int)) (by decide) rfl ?_
  intro p e s m args below meth c s₁ B hml hv
  obtain ⟨rfl, hP, hKK⟩ := hv
  have hK := hKK.1
  have hx := B.exec
  have hb := B.bytes
  have hr := B.returns
  have hts := atoms_spec (ws := wsX4_film) B.pre
  have hown : s.vm.findClass RX4 = some m.cls := findClass_of_methodNamed B.named
  have hlocks := B.notSynchronized
  have hiX0 : ∀ w ∈ wsX00, w ∈ wsX4_film := by decide +kernel
  have hiX1 : ∀ w ∈ wsX10, w ∈ wsX4_film := by decide +kernel
  have hiX3 : ∀ w ∈ wsX30, w ∈ wsX4_film := by decide +kernel
  have hiX4 : ∀ w ∈ wsX40, w ∈ wsX4_film := by decide +kernel
  have hl := lv_entry ([.ref x0, .int x, .int y, .int z, .int i]) (n := 9) (Nat.le_of_ble_eq_true rfl)
  rw [lg_entry_eq]
  generalize (lg_sl ([.ref x0, .int x, .int y, .int z, .int i]) ++ List.replicate (9 - (lg_sl ([.ref x0, .int x, .int y, .int z, .int i])).length) Slot.unset).toArray = ls at hl ⊢
  have hl : lv_has ls 9 [(0, .ref x0), (1, .int x), (2, .int y), (3, .int z), (4, .int i)] := hl
  refine lv_iload_n hx hb dX4_film_0 rfl (lv_at hl 1 rfl) ?_
  refine rr_callR (va_runS (As := [.int x]) (rest := []) ⟨hx, hb, hml, hown, hts⟩ (c_X4_isRegister l x ) (va_cwS 1 hts gX4_film_X4_isRegister rfl rfl rfl (by decide +kernel) ⟨Nat.le_of_ble_eq_true rfl, Nat.le_of_ble_eq_true rfl⟩) rr_preT rfl rfl hl.1 rfl (lv_room (Nat.le_of_ble_eq_true rfl)) dX4_film_1 ⟨Nat.zero_le _, Nat.zero_le _⟩) ?_
  refine rb_if_eq (tgt := 21) hx hb dX4_film_4 (by decide) (fun c4 => ?_) (fun c4 => ?_)
  · skip
    refine lv_iconst (v := (-1)) hx hb dX4_film_21 (by decide) ?_
    exact rr_iret hx hb hr hlocks dX4_film_22 (rfl)
  refine lv_iload_n hx hb dX4_film_7 rfl (lv_at hl 2 rfl) ?_
  refine rr_callR (va_runS (As := [.int y]) (rest := []) ⟨hx, hb, hml, hown, hts⟩ (c_X4_isSheet l y ) (va_cwS 1 hts gX4_film_X4_isSheet rfl rfl rfl (by decide +kernel) ⟨Nat.le_of_ble_eq_true rfl, Nat.le_of_ble_eq_true rfl⟩) rr_preT rfl rfl hl.1 rfl (lv_room (Nat.le_of_ble_eq_true rfl)) dX4_film_8 ⟨Nat.zero_le _, Nat.zero_le _⟩) ?_
  refine rb_if_eq (tgt := 21) hx hb dX4_film_11 (by decide) (fun c11 => ?_) (fun c11 => ?_)
  · skip
    refine lv_iconst (v := (-1)) hx hb dX4_film_21 (by decide) ?_
    exact rr_iret hx hb hr hlocks dX4_film_22 (rfl)
  refine lv_iload_n hx hb dX4_film_14 rfl (lv_at hl 3 rfl) ?_
  refine rr_callR (va_runS (As := [.int z]) (rest := []) ⟨hx, hb, hml, hown, hts⟩ (c_X4_isLane l z ) (va_cwS 1 hts gX4_film_X4_isLane rfl rfl rfl (by decide +kernel) ⟨Nat.le_of_ble_eq_true rfl, Nat.le_of_ble_eq_true rfl⟩) rr_preT rfl rfl hl.1 rfl (lv_room (Nat.le_of_ble_eq_true rfl)) dX4_film_15 ⟨Nat.zero_le _, Nat.zero_le _⟩) ?_
  refine rb_if_ne (tgt := 23) hx hb dX4_film_18 (by decide) (fun c18 => ?_) (fun c18 => ?_)
  · skip
    exact absurd hbad (by rw [c4, c11, c18]; decide)
  refine lv_iconst (v := (-1)) hx hb dX4_film_21 (by decide) ?_
  exact rr_iret hx hb hr hlocks dX4_film_22 (rfl)
set_option maxHeartbeats 4000000 in
set_option maxRecDepth 100000 in
theorem c_X4_sheet_g (l : Launch) (dC : Nat → ClassId) (dI : Nat → Nat → Nat) (cI cJ cS : ClassId) (sz : Nat) (x0 t0 b0 k0 sa : Nat) (im : Bool) (sd sq : Nat → Nat) (sh : Nat) (th : Bool) (ln len : Nat) (row : Nat → Int64) (l2 n2 : Nat) (hs4 : sh < 4) (hl4 : l2 < 4) (hn24 : n2 ≤ 24) : Met l yX4_sheet wsX4_sheet ({ frames := 2, cells := 0, slots := 0, locals := 41 }) (va_Pc [.ref x0, .int (nI sh), .int (nI l2), .int (nI n2)] (rW (dC, dI) vwCl [(x0, .inr (4, [.ref t0, .ref b0, .ref k0, .int (bi im), .ref sa])), (sa, .inl (cS, 4, .inr (.inr (.inr (.inr (saF sd)))))), (sd sh, .inr (1, [.int (bi th), .int (nI ln), .int (nI len), .ref (sq sh)])), (sq sh, .inl (cJ, 24, .inr (.inl row)))] (tyz cI cJ cS) sz)) (qI (nI n2) (dC, dI) vwCl [(x0, .inr (4, [.ref t0, .ref b0, .ref k0, .int (bi im), .ref sa])), (sa, .inl (cS, 4, .inr (.inr (.inr (.inr (saF sd)))))), (sd sh, .inr (1, [.int (bi true), .int (nI l2), .int (nI n2), .ref (sq sh)])), (sq sh, .inl (cJ, 24, .inr (.inl (zL 24 row))))] (va_A [(x0, .inr (4, [.ref t0, .ref b0, .ref k0, .int (bi im), .ref sa])), (sa, .inl (cS, 4, .inr (.inr (.inr (.inr (saF sd)))))), (sd sh, .inr (1, [.int (bi th), .int (nI ln), .int (nI len), .ref (sq sh)])), (sq sh, .inl (cJ, 24, .inr (.inl row)))] sz)) 0 0 (va_A [(x0, .inr (4, [.ref t0, .ref b0, .ref k0, .int (bi im), .ref sa])), (sa, .inl (cS, 4, .inr (.inr (.inr (.inr (saF sd)))))), (sd sh, .inr (1, [.int (bi th), .int (nI ln), .int (nI len), .ref (sq sh)])), (sq sh, .inl (cJ, 24, .inr (.inl row)))] sz) := by
  refine Met.ofW (cc := cX4_sheet) (maxL := 4) (ret := (some .int)) (by decide) rfl ?_
  intro p e s m args below meth c s₁ B hml hv
  obtain ⟨rfl, hsz, hP, hKK, hD0⟩ := hv
  have hK := hKK.1
  have hx := B.exec
  have hb := B.bytes
  have hr := B.returns
  have hts := atoms_spec (ws := wsX4_sheet) B.pre
  have hown : s.vm.findClass RX4 = some m.cls := findClass_of_methodNamed B.named
  have hlocks := B.notSynchronized
  subst hsz
  have hD := hD0.self (sz := s.heap.size)
  generalize hAe : va_A [(x0, .inr (4, [.ref t0, .ref b0, .ref k0, .int (bi im), .ref sa])), (sa, .inl (cS, 4, .inr (.inr (.inr (.inr (saF sd)))))), (sd sh, .inr (1, [.int (bi th), .int (nI ln), .int (nI len), .ref (sq sh)])), (sq sh, .inl (cJ, 24, .inr (.inl row)))] s.heap.size = A at hD ⊢
  have hA : ∀ q : Nat, s.heap.size ≤ q → A q := fun q h => by rw [← hAe]; exact Or.inr h
  have hS : va_S A s.heap s.heap [] := va_S.rf
  have hP : va_P (dC, dI) vwCl [(x0, .inr (4, [.ref t0, .ref b0, .ref k0, .int (bi im), .ref sa])), (sa, .inl (cS, 4, .inr (.inr (.inr (.inr (saF sd)))))), (sd sh, .inr (1, [.int (bi th), .int (nI ln), .int (nI len), .ref (sq sh)])), (sq sh, .inl (cJ, 24, .inr (.inl row)))] s.heap := hP
  have hiX4 : ∀ w ∈ wsX40, w ∈ wsX4_sheet := by decide +kernel
  have hl := lv_entry ([.ref x0, .int (nI sh), .int (nI l2), .int (nI n2)]) (n := 4) (Nat.le_of_ble_eq_true rfl)
  rw [lg_entry_eq]
  generalize (lg_sl ([.ref x0, .int (nI sh), .int (nI l2), .int (nI n2)]) ++ List.replicate (4 - (lg_sl ([.ref x0, .int (nI sh), .int (nI l2), .int (nI n2)])).length) Slot.unset).toArray = ls at hl ⊢
  have hl : lv_has ls 4 [(0, .ref x0), (1, .int (nI sh)), (2, .int (nI l2)), (3, .int (nI n2))] := hl
  refine lv_iload_n hx hb dX4_sheet_0 rfl (lv_at hl 1 rfl) ?_
  refine rr_callR (va_runS (As := [.int (nI sh)]) (rest := []) ⟨hx, hb, hml, hown, hts⟩ (c_X4_isSheet l (nI sh) ) (va_cwS 1 hts gX4_sheet_X4_isSheet rfl rfl rfl (by decide +kernel) ⟨Nat.le_of_ble_eq_true rfl, Nat.le_of_ble_eq_true rfl⟩) rr_preT rfl rfl hl.1 rfl (lv_room (Nat.le_of_ble_eq_true rfl)) dX4_sheet_1 ⟨Nat.zero_le _, Nat.zero_le _⟩) ?_
  refine rr_top (y := bi true) (congrArg bi (inb_lt (by omega) (by omega))) ?_
  refine rb_if_eq (tgt := 20) hx hb dX4_sheet_4 (by decide) (fun c4 => ?_) (fun c4 => ?_)
  · exact absurd c4 (by decide)
  refine lv_iload_n hx hb dX4_sheet_7 rfl (lv_at hl 2 rfl) ?_
  refine rr_callR (va_runS (As := [.int (nI l2)]) (rest := []) ⟨hx, hb, hml, hown, hts⟩ (c_X4_isLane l (nI l2) ) (va_cwS 1 hts gX4_sheet_X4_isLane rfl rfl rfl (by decide +kernel) ⟨Nat.le_of_ble_eq_true rfl, Nat.le_of_ble_eq_true rfl⟩) rr_preT rfl rfl hl.1 rfl (lv_room (Nat.le_of_ble_eq_true rfl)) dX4_sheet_8 ⟨Nat.zero_le _, Nat.zero_le _⟩) ?_
  refine rr_top (y := bi true) (congrArg bi (inb_lt (by omega) (by omega))) ?_
  refine rb_if_eq (tgt := 20) hx hb dX4_sheet_11 (by decide) (fun c11 => ?_) (fun c11 => ?_)
  · exact absurd c11 (by decide)
  refine lv_iload_n hx hb dX4_sheet_14 rfl (lv_at hl 3 rfl) ?_
  refine lv_bipush (v := (nI 24)) hx hb dX4_sheet_15 (by decide) ?_
  refine rn_icmp_le (tgt := 22) hx hb dX4_sheet_17 (by decide) (by omega) (by omega) (fun c17 => ?_) (fun c17 => ?_)
  · skip
    refine lv_iload_n hx hb dX4_sheet_22 rfl (lv_at hl 3 rfl) ?_
    refine rn_if_ge (tgt := 29) hx hb dX4_sheet_23 (by decide) (by omega) ?_
    refine lv_aload_n hx hb dX4_sheet_29 rfl (lv_at hl 0 rfl) ?_
    refine va_get (D := (dC, dI)) (ci := 4) (v := .ref sa) (C := RX4) (T := TX4) (N := 5) hx hb hts hiX4 hown hK hP 0 rfl rfl 4 (by decide) (hts (.fieldLink RX4 28 "RestRegisters" "sheets" "[LRestRegisters$Sheet;") (by decide +kernel)) (fun _ h9 => h9) rfl dX4_sheet_30 ?_
    refine lv_iload_n hx hb dX4_sheet_33 rfl (lv_at hl 1 rfl) ?_
    refine rn_aald hx hb hK hP 1 2 rfl rfl (i := sh) (by omega) (by decide) (v := sd sh) rfl dX4_sheet_34 ?_
    refine lv_iload_n hx hb dX4_sheet_35 rfl (lv_at hl 2 rfl) ?_
    refine lv_iload_n hx hb dX4_sheet_36 rfl (lv_at hl 3 rfl) ?_
    refine rw_callv (va_runV (As := [.int (nI l2), .int (nI n2)]) (rest := []) ⟨hx, hb, hml, hown, hts⟩ (c_X1_hold l dC dI cI cJ cS _ (sd sh) (sq sh) th ln len row l2 n2 ) (cwV 2 hts gX4_sheet_X1_hold rfl rfl rfl (by decide +kernel) ⟨Nat.le_of_ble_eq_true rfl, Nat.le_of_ble_eq_true rfl⟩) (rw_preV hKK (hP.sub [2, 3] rfl) (hD.sub [2, 3] (by decide) rfl) rfl rfl) rfl rfl hl.1 rfl (lv_room (Nat.le_of_ble_eq_true rfl)) dX4_sheet_37 ⟨Nat.zero_le _, Nat.zero_le _⟩) (wr := [(x0, .inr (4, [.ref t0, .ref b0, .ref k0, .int (bi im), .ref sa])), (sa, .inl (cS, 4, .inr (.inr (.inr (.inr (saF sd))))))]) hP hD hS hA [2, 3] [0, 1] rfl rfl (by decide) (by decide) (fun H locs hP hD hS => ?_)
    have hP : va_P (dC, dI) vwCl [(x0, .inr (4, [.ref t0, .ref b0, .ref k0, .int (bi im), .ref sa])), (sa, .inl (cS, 4, .inr (.inr (.inr (.inr (saF sd)))))), ((sd sh), .inr (1, [.int (bi true), .int (nI l2), .int (nI n2), .ref (sq sh)])), ((sq sh), .inl (cJ, 24, .inr (.inl (zL 24 row))))] H := hP.sub [0, 1, 2, 3] rfl
    have hD : va_D A [(x0, .inr (4, [.ref t0, .ref b0, .ref k0, .int (bi im), .ref sa])), (sa, .inl (cS, 4, .inr (.inr (.inr (.inr (saF sd)))))), ((sd sh), .inr (1, [.int (bi true), .int (nI l2), .int (nI n2), .ref (sq sh)])), ((sq sh), .inl (cJ, 24, .inr (.inl (zL 24 row))))] := hD.sub [0, 1, 2, 3] (by decide) rfl
    refine lv_iload_n hx hb dX4_sheet_40 rfl (lv_at hl 3 rfl) ?_
    exact rr_iretW hx hb hr hlocks dX4_sheet_41 hP hD hS (rfl)
  exact absurd c17 (by omega)
set_option maxHeartbeats 4000000 in
set_option maxRecDepth 100000 in
theorem c_X4_sheet_b1 (l : Launch) (dC : Nat → ClassId) (dI : Nat → Nat → Nat) (cI cJ cS : ClassId) (x0 t0 k0 sa : Nat) (im : Bool) (b0 h3 hk hw hs hrs hpr hpd : Nat) (n h rg sp dr kn nx : Nat) (kf wf sf : Nat → Int32) (Kd Wd Sh Rr Pr Pd : Nat → Nat) (x y z : Int32) (hbad : (inb x 4 && inb y 4) = false) : Met l yX4_sheet wsX4_sheet ({ frames := 2, cells := 0, slots := 0, locals := 41 }) (va_Pc [.ref x0, .int x, .int y, .int z] (rB (dC, dI) vwCl [(x0, .inr (4, [.ref t0, .ref b0, .ref k0, .int (bi im), .ref sa])), (b0, .inr (0, [.ref h3, .ref hrs, .int (nI dr), .int (nI kn), .int (nI nx), .ref hpr, .ref hpd])), (h3, .inr (3, [.int (nI n), .int (nI h), .int (nI rg), .int (nI sp), .ref hk, .ref hw, .ref hs])), (hk, .inl (cI, 6, .inl kf)), (hw, .inl (cI, 6, .inl wf)), (hs, .inl (cI, 6, .inl sf)), (hrs, .inl (cI, 24, .inl (nA Rr))), (hpr, .inl (cI, 192, .inl (nA Pr))), (hpd, .inl (cI, 8, .inl (nA Pd)))] (tyz cI cJ cS))) (QcRead (-1)) 0 0 (fun _ => False) := by
  refine Met.ofW (cc := cX4_sheet) (maxL := 4) (ret := (some .int)) (by decide) rfl ?_
  intro p e s m args below meth c s₁ B hml hv
  obtain ⟨rfl, hP, hKK⟩ := hv
  have hK := hKK.1
  have hx := B.exec
  have hb := B.bytes
  have hr := B.returns
  have hts := atoms_spec (ws := wsX4_sheet) B.pre
  have hown : s.vm.findClass RX4 = some m.cls := findClass_of_methodNamed B.named
  have hlocks := B.notSynchronized
  have hiX4 : ∀ w ∈ wsX40, w ∈ wsX4_sheet := by decide +kernel
  have hl := lv_entry ([.ref x0, .int x, .int y, .int z]) (n := 4) (Nat.le_of_ble_eq_true rfl)
  rw [lg_entry_eq]
  generalize (lg_sl ([.ref x0, .int x, .int y, .int z]) ++ List.replicate (4 - (lg_sl ([.ref x0, .int x, .int y, .int z])).length) Slot.unset).toArray = ls at hl ⊢
  have hl : lv_has ls 4 [(0, .ref x0), (1, .int x), (2, .int y), (3, .int z)] := hl
  refine lv_iload_n hx hb dX4_sheet_0 rfl (lv_at hl 1 rfl) ?_
  refine rr_callR (va_runS (As := [.int x]) (rest := []) ⟨hx, hb, hml, hown, hts⟩ (c_X4_isSheet l x ) (va_cwS 1 hts gX4_sheet_X4_isSheet rfl rfl rfl (by decide +kernel) ⟨Nat.le_of_ble_eq_true rfl, Nat.le_of_ble_eq_true rfl⟩) rr_preT rfl rfl hl.1 rfl (lv_room (Nat.le_of_ble_eq_true rfl)) dX4_sheet_1 ⟨Nat.zero_le _, Nat.zero_le _⟩) ?_
  refine rb_if_eq (tgt := 20) hx hb dX4_sheet_4 (by decide) (fun c4 => ?_) (fun c4 => ?_)
  · skip
    refine lv_iconst (v := (-1)) hx hb dX4_sheet_20 (by decide) ?_
    exact rr_iret hx hb hr hlocks dX4_sheet_21 (rfl)
  refine lv_iload_n hx hb dX4_sheet_7 rfl (lv_at hl 2 rfl) ?_
  refine rr_callR (va_runS (As := [.int y]) (rest := []) ⟨hx, hb, hml, hown, hts⟩ (c_X4_isLane l y ) (va_cwS 1 hts gX4_sheet_X4_isLane rfl rfl rfl (by decide +kernel) ⟨Nat.le_of_ble_eq_true rfl, Nat.le_of_ble_eq_true rfl⟩) rr_preT rfl rfl hl.1 rfl (lv_room (Nat.le_of_ble_eq_true rfl)) dX4_sheet_8 ⟨Nat.zero_le _, Nat.zero_le _⟩) ?_
  refine rb_if_eq (tgt := 20) hx hb dX4_sheet_11 (by decide) (fun c11 => ?_) (fun c11 => ?_)
  · skip
    refine lv_iconst (v := (-1)) hx hb dX4_sheet_20 (by decide) ?_
    exact rr_iret hx hb hr hlocks dX4_sheet_21 (rfl)
  exact absurd hbad (by rw [c4, c11]; decide)
set_option maxHeartbeats 4000000 in
set_option maxRecDepth 100000 in
theorem c_X4_sheet_b2 (l : Launch) (dC : Nat → ClassId) (dI : Nat → Nat → Nat) (cI cJ cS : ClassId) (x0 t0 k0 sa : Nat) (im : Bool) (b0 h3 hk hw hs hrs hpr hpd : Nat) (n h rg sp dr kn nx : Nat) (kf wf sf : Nat → Int32) (Kd Wd Sh Rr Pr Pd : Nat → Nat) (sh l2 : Nat) (z : Int32) (hs4 : sh < 4) (hl4 : l2 < 4) (hbad : ¬ z ≤ nI 24) : Met l yX4_sheet wsX4_sheet ({ frames := 2, cells := 0, slots := 0, locals := 41 }) (va_Pc [.ref x0, .int (nI sh), .int (nI l2), .int z] (rB (dC, dI) vwCl [(x0, .inr (4, [.ref t0, .ref b0, .ref k0, .int (bi im), .ref sa])), (b0, .inr (0, [.ref h3, .ref hrs, .int (nI dr), .int (nI kn), .int (nI nx), .ref hpr, .ref hpd])), (h3, .inr (3, [.int (nI n), .int (nI h), .int (nI rg), .int (nI sp), .ref hk, .ref hw, .ref hs])), (hk, .inl (cI, 6, .inl kf)), (hw, .inl (cI, 6, .inl wf)), (hs, .inl (cI, 6, .inl sf)), (hrs, .inl (cI, 24, .inl (nA Rr))), (hpr, .inl (cI, 192, .inl (nA Pr))), (hpd, .inl (cI, 8, .inl (nA Pd)))] (tyz cI cJ cS))) (QcRead (-1)) 0 0 (fun _ => False) := by
  refine Met.ofW (cc := cX4_sheet) (maxL := 4) (ret := (some .int)) (by decide) rfl ?_
  intro p e s m args below meth c s₁ B hml hv
  obtain ⟨rfl, hP, hKK⟩ := hv
  have hK := hKK.1
  have hx := B.exec
  have hb := B.bytes
  have hr := B.returns
  have hts := atoms_spec (ws := wsX4_sheet) B.pre
  have hown : s.vm.findClass RX4 = some m.cls := findClass_of_methodNamed B.named
  have hlocks := B.notSynchronized
  have hiX4 : ∀ w ∈ wsX40, w ∈ wsX4_sheet := by decide +kernel
  have hl := lv_entry ([.ref x0, .int (nI sh), .int (nI l2), .int z]) (n := 4) (Nat.le_of_ble_eq_true rfl)
  rw [lg_entry_eq]
  generalize (lg_sl ([.ref x0, .int (nI sh), .int (nI l2), .int z]) ++ List.replicate (4 - (lg_sl ([.ref x0, .int (nI sh), .int (nI l2), .int z])).length) Slot.unset).toArray = ls at hl ⊢
  have hl : lv_has ls 4 [(0, .ref x0), (1, .int (nI sh)), (2, .int (nI l2)), (3, .int z)] := hl
  refine lv_iload_n hx hb dX4_sheet_0 rfl (lv_at hl 1 rfl) ?_
  refine rr_callR (va_runS (As := [.int (nI sh)]) (rest := []) ⟨hx, hb, hml, hown, hts⟩ (c_X4_isSheet l (nI sh) ) (va_cwS 1 hts gX4_sheet_X4_isSheet rfl rfl rfl (by decide +kernel) ⟨Nat.le_of_ble_eq_true rfl, Nat.le_of_ble_eq_true rfl⟩) rr_preT rfl rfl hl.1 rfl (lv_room (Nat.le_of_ble_eq_true rfl)) dX4_sheet_1 ⟨Nat.zero_le _, Nat.zero_le _⟩) ?_
  refine rr_top (y := bi true) (congrArg bi (inb_lt (by omega) (by omega))) ?_
  refine rb_if_eq (tgt := 20) hx hb dX4_sheet_4 (by decide) (fun c4 => ?_) (fun c4 => ?_)
  · exact absurd c4 (by decide)
  refine lv_iload_n hx hb dX4_sheet_7 rfl (lv_at hl 2 rfl) ?_
  refine rr_callR (va_runS (As := [.int (nI l2)]) (rest := []) ⟨hx, hb, hml, hown, hts⟩ (c_X4_isLane l (nI l2) ) (va_cwS 1 hts gX4_sheet_X4_isLane rfl rfl rfl (by decide +kernel) ⟨Nat.le_of_ble_eq_true rfl, Nat.le_of_ble_eq_true rfl⟩) rr_preT rfl rfl hl.1 rfl (lv_room (Nat.le_of_ble_eq_true rfl)) dX4_sheet_8 ⟨Nat.zero_le _, Nat.zero_le _⟩) ?_
  refine rr_top (y := bi true) (congrArg bi (inb_lt (by omega) (by omega))) ?_
  refine rb_if_eq (tgt := 20) hx hb dX4_sheet_11 (by decide) (fun c11 => ?_) (fun c11 => ?_)
  · exact absurd c11 (by decide)
  refine lv_iload_n hx hb dX4_sheet_14 rfl (lv_at hl 3 rfl) ?_
  refine lv_bipush (v := (nI 24)) hx hb dX4_sheet_15 (by decide) ?_
  refine lv_icmp_le (tgt := 22) hx hb dX4_sheet_17 (by decide) (fun c17 => ?_) (fun c17 => ?_)
  · skip
    exact absurd c17 hbad
  refine lv_iconst (v := (-1)) hx hb dX4_sheet_20 (by decide) ?_
  exact rr_iret hx hb hr hlocks dX4_sheet_21 (rfl)
set_option maxHeartbeats 4000000 in
set_option maxRecDepth 100000 in
theorem c_X4_sheet_z (l : Launch) (dC : Nat → ClassId) (dI : Nat → Nat → Nat) (cI cJ cS : ClassId) (x0 t0 k0 sa : Nat) (im : Bool) (b0 h3 hk hw hs hrs hpr hpd : Nat) (n h rg sp dr kn nx : Nat) (kf wf sf : Nat → Int32) (Kd Wd Sh Rr Pr Pd : Nat → Nat) (sh l2 : Nat) (z : Int32) (hs4 : sh < 4) (hl4 : l2 < 4) (hbad : z < 0) : Met l yX4_sheet wsX4_sheet ({ frames := 2, cells := 0, slots := 0, locals := 41 }) (va_Pc [.ref x0, .int (nI sh), .int (nI l2), .int z] (rB (dC, dI) vwCl [(x0, .inr (4, [.ref t0, .ref b0, .ref k0, .int (bi im), .ref sa])), (b0, .inr (0, [.ref h3, .ref hrs, .int (nI dr), .int (nI kn), .int (nI nx), .ref hpr, .ref hpd])), (h3, .inr (3, [.int (nI n), .int (nI h), .int (nI rg), .int (nI sp), .ref hk, .ref hw, .ref hs])), (hk, .inl (cI, 6, .inl kf)), (hw, .inl (cI, 6, .inl wf)), (hs, .inl (cI, 6, .inl sf)), (hrs, .inl (cI, 24, .inl (nA Rr))), (hpr, .inl (cI, 192, .inl (nA Pr))), (hpd, .inl (cI, 8, .inl (nA Pd)))] (tyz cI cJ cS))) (QcRead (-14)) 0 0 (fun _ => False) := by
  refine Met.ofW (cc := cX4_sheet) (maxL := 4) (ret := (some .int)) (by decide) rfl ?_
  intro p e s m args below meth c s₁ B hml hv
  obtain ⟨rfl, hP, hKK⟩ := hv
  have hK := hKK.1
  have hx := B.exec
  have hb := B.bytes
  have hr := B.returns
  have hts := atoms_spec (ws := wsX4_sheet) B.pre
  have hown : s.vm.findClass RX4 = some m.cls := findClass_of_methodNamed B.named
  have hlocks := B.notSynchronized
  have hiX4 : ∀ w ∈ wsX40, w ∈ wsX4_sheet := by decide +kernel
  have hl := lv_entry ([.ref x0, .int (nI sh), .int (nI l2), .int z]) (n := 4) (Nat.le_of_ble_eq_true rfl)
  rw [lg_entry_eq]
  generalize (lg_sl ([.ref x0, .int (nI sh), .int (nI l2), .int z]) ++ List.replicate (4 - (lg_sl ([.ref x0, .int (nI sh), .int (nI l2), .int z])).length) Slot.unset).toArray = ls at hl ⊢
  have hl : lv_has ls 4 [(0, .ref x0), (1, .int (nI sh)), (2, .int (nI l2)), (3, .int z)] := hl
  refine lv_iload_n hx hb dX4_sheet_0 rfl (lv_at hl 1 rfl) ?_
  refine rr_callR (va_runS (As := [.int (nI sh)]) (rest := []) ⟨hx, hb, hml, hown, hts⟩ (c_X4_isSheet l (nI sh) ) (va_cwS 1 hts gX4_sheet_X4_isSheet rfl rfl rfl (by decide +kernel) ⟨Nat.le_of_ble_eq_true rfl, Nat.le_of_ble_eq_true rfl⟩) rr_preT rfl rfl hl.1 rfl (lv_room (Nat.le_of_ble_eq_true rfl)) dX4_sheet_1 ⟨Nat.zero_le _, Nat.zero_le _⟩) ?_
  refine rr_top (y := bi true) (congrArg bi (inb_lt (by omega) (by omega))) ?_
  refine rb_if_eq (tgt := 20) hx hb dX4_sheet_4 (by decide) (fun c4 => ?_) (fun c4 => ?_)
  · exact absurd c4 (by decide)
  refine lv_iload_n hx hb dX4_sheet_7 rfl (lv_at hl 2 rfl) ?_
  refine rr_callR (va_runS (As := [.int (nI l2)]) (rest := []) ⟨hx, hb, hml, hown, hts⟩ (c_X4_isLane l (nI l2) ) (va_cwS 1 hts gX4_sheet_X4_isLane rfl rfl rfl (by decide +kernel) ⟨Nat.le_of_ble_eq_true rfl, Nat.le_of_ble_eq_true rfl⟩) rr_preT rfl rfl hl.1 rfl (lv_room (Nat.le_of_ble_eq_true rfl)) dX4_sheet_8 ⟨Nat.zero_le _, Nat.zero_le _⟩) ?_
  refine rr_top (y := bi true) (congrArg bi (inb_lt (by omega) (by omega))) ?_
  refine rb_if_eq (tgt := 20) hx hb dX4_sheet_11 (by decide) (fun c11 => ?_) (fun c11 => ?_)
  · exact absurd c11 (by decide)
  refine lv_iload_n hx hb dX4_sheet_14 rfl (lv_at hl 3 rfl) ?_
  refine lv_bipush (v := (nI 24)) hx hb dX4_sheet_15 (by decide) ?_
  refine lv_icmp_le (tgt := 22) hx hb dX4_sheet_17 (by decide) (fun c17 => ?_) (fun c17 => ?_)
  · skip
    refine lv_iload_n hx hb dX4_sheet_22 rfl (lv_at hl 3 rfl) ?_
    refine lv_if_ge (tgt := 29) hx hb dX4_sheet_23 (by decide) (fun c23 => ?_) (fun c23 => ?_)
    · skip
      exact absurd c23 (fun q => by rw [Int32.le_iff_toInt_le] at q; rw [Int32.lt_iff_toInt_lt] at hbad; omega)
    refine lv_bipush (v := (-14)) hx hb dX4_sheet_26 (by decide) ?_
    exact rr_iret hx hb hr hlocks dX4_sheet_28 (rfl)
  exact absurd (Int32.le_iff_toInt_le.mpr (by rw [nI_toInt (by decide)]; have := lt0_toInt hbad; omega)) c17
set_option maxHeartbeats 4000000 in
set_option maxRecDepth 100000 in
theorem c_X4_drop_g (l : Launch) (dC : Nat → ClassId) (dI : Nat → Nat → Nat) (cI cJ cS : ClassId) (sz : Nat) (x0 t0 b0 k0 sa : Nat) (im : Bool) (sd sq : Nat → Nat) (sh : Nat) (th : Bool) (ln len : Nat) (row : Nat → Int64) (hs4 : sh < 4) (hth : th = true) : Met l yX4_drop wsX4_drop ({ frames := 2, cells := 0, slots := 0, locals := 41 }) (va_Pc [.ref x0, .int (nI sh)] (rW (dC, dI) vwCl [(x0, .inr (4, [.ref t0, .ref b0, .ref k0, .int (bi im), .ref sa])), (sa, .inl (cS, 4, .inr (.inr (.inr (.inr (saF sd)))))), (sd sh, .inr (1, [.int (bi th), .int (nI ln), .int (nI len), .ref (sq sh)])), (sq sh, .inl (cJ, 24, .inr (.inl row)))] (tyz cI cJ cS) sz)) (qI (nI len) (dC, dI) vwCl [(x0, .inr (4, [.ref t0, .ref b0, .ref k0, .int (bi im), .ref sa])), (sa, .inl (cS, 4, .inr (.inr (.inr (.inr (saF sd)))))), (sd sh, .inr (1, [.int (bi false), .int (nI ln), .int (nI len), .ref (sq sh)])), (sq sh, .inl (cJ, 24, .inr (.inl row)))] (va_A [(x0, .inr (4, [.ref t0, .ref b0, .ref k0, .int (bi im), .ref sa])), (sa, .inl (cS, 4, .inr (.inr (.inr (.inr (saF sd)))))), (sd sh, .inr (1, [.int (bi th), .int (nI ln), .int (nI len), .ref (sq sh)])), (sq sh, .inl (cJ, 24, .inr (.inl row)))] sz)) 0 0 (va_A [(x0, .inr (4, [.ref t0, .ref b0, .ref k0, .int (bi im), .ref sa])), (sa, .inl (cS, 4, .inr (.inr (.inr (.inr (saF sd)))))), (sd sh, .inr (1, [.int (bi th), .int (nI ln), .int (nI len), .ref (sq sh)])), (sq sh, .inl (cJ, 24, .inr (.inl row)))] sz) := by
  refine Met.ofW (cc := cX4_drop) (maxL := 3) (ret := (some .int)) (by decide) rfl ?_
  intro p e s m args below meth c s₁ B hml hv
  obtain ⟨rfl, hsz, hP, hKK, hD0⟩ := hv
  have hK := hKK.1
  have hx := B.exec
  have hb := B.bytes
  have hr := B.returns
  have hts := atoms_spec (ws := wsX4_drop) B.pre
  have hown : s.vm.findClass RX4 = some m.cls := findClass_of_methodNamed B.named
  have hlocks := B.notSynchronized
  subst hsz
  have hD := hD0.self (sz := s.heap.size)
  generalize hAe : va_A [(x0, .inr (4, [.ref t0, .ref b0, .ref k0, .int (bi im), .ref sa])), (sa, .inl (cS, 4, .inr (.inr (.inr (.inr (saF sd)))))), (sd sh, .inr (1, [.int (bi th), .int (nI ln), .int (nI len), .ref (sq sh)])), (sq sh, .inl (cJ, 24, .inr (.inl row)))] s.heap.size = A at hD ⊢
  have hA : ∀ q : Nat, s.heap.size ≤ q → A q := fun q h => by rw [← hAe]; exact Or.inr h
  have hS : va_S A s.heap s.heap [] := va_S.rf
  have hP : va_P (dC, dI) vwCl [(x0, .inr (4, [.ref t0, .ref b0, .ref k0, .int (bi im), .ref sa])), (sa, .inl (cS, 4, .inr (.inr (.inr (.inr (saF sd)))))), (sd sh, .inr (1, [.int (bi th), .int (nI ln), .int (nI len), .ref (sq sh)])), (sq sh, .inl (cJ, 24, .inr (.inl row)))] s.heap := hP
  have hiX1 : ∀ w ∈ wsX10, w ∈ wsX4_drop := by decide +kernel
  have hiX4 : ∀ w ∈ wsX40, w ∈ wsX4_drop := by decide +kernel
  have hl := lv_entry ([.ref x0, .int (nI sh)]) (n := 3) (Nat.le_of_ble_eq_true rfl)
  rw [lg_entry_eq]
  generalize (lg_sl ([.ref x0, .int (nI sh)]) ++ List.replicate (3 - (lg_sl ([.ref x0, .int (nI sh)])).length) Slot.unset).toArray = ls at hl ⊢
  have hl : lv_has ls 3 [(0, .ref x0), (1, .int (nI sh))] := hl
  refine lv_iload_n hx hb dX4_drop_0 rfl (lv_at hl 1 rfl) ?_
  refine rr_callR (va_runS (As := [.int (nI sh)]) (rest := []) ⟨hx, hb, hml, hown, hts⟩ (c_X4_isSheet l (nI sh) ) (va_cwS 1 hts gX4_drop_X4_isSheet rfl rfl rfl (by decide +kernel) ⟨Nat.le_of_ble_eq_true rfl, Nat.le_of_ble_eq_true rfl⟩) rr_preT rfl rfl hl.1 rfl (lv_room (Nat.le_of_ble_eq_true rfl)) dX4_drop_1 ⟨Nat.zero_le _, Nat.zero_le _⟩) ?_
  refine rr_top (y := bi true) (congrArg bi (inb_lt (by omega) (by omega))) ?_
  refine rb_if_ne (tgt := 9) hx hb dX4_drop_4 (by decide) (fun c4 => ?_) (fun c4 => ?_)
  rotate_left
  · exact absurd c4 (by decide)
  refine lv_aload_n hx hb dX4_drop_9 rfl (lv_at hl 0 rfl) ?_
  refine va_get (D := (dC, dI)) (ci := 4) (v := .ref sa) (C := RX4) (T := TX4) (N := 5) hx hb hts hiX4 hown hK hP 0 rfl rfl 4 (by decide) (hts (.fieldLink RX4 28 "RestRegisters" "sheets" "[LRestRegisters$Sheet;") (by decide +kernel)) (fun _ h9 => h9) rfl dX4_drop_10 ?_
  refine lv_iload_n hx hb dX4_drop_13 rfl (lv_at hl 1 rfl) ?_
  refine rn_aald hx hb hK hP 1 2 rfl rfl (i := sh) (by omega) (by decide) (v := sd sh) rfl dX4_drop_14 ?_
  refine lv_astore_n (lv' := [(2, .ref (sd sh)), (0, .ref x0), (1, .int (nI sh))]) hx hb dX4_drop_15 rfl hl (by decide) rfl (fun ls hl => ?_)
  refine lv_aload_n hx hb dX4_drop_16 rfl (lv_at hl 0 rfl) ?_
  refine va_get (D := (dC, dI)) (ci := 1) (v := .int (bi th)) (C := RX1) (T := TX1) (N := 4) hx hb hts hiX1 hown hK hP 2 rfl rfl 0 (by decide) (hts (.fieldLink RX4 231 "RestRegisters$Sheet" "isThere" "Z") (by decide +kernel)) (fun _ h9 => h9) rfl dX4_drop_17 ?_
  refine rb_if_ne (tgt := 26) hx hb dX4_drop_20 (by decide) (fun c20 => ?_) (fun c20 => ?_)
  · skip
    refine lv_aload_n hx hb dX4_drop_26 rfl (lv_at hl 0 rfl) ?_
    refine lv_iconst (v := (nI 0)) hx hb dX4_drop_27 (by decide) ?_
    refine va_put (D := (dC, dI)) (ci := 1) (v := .int (nI 0)) (ty := .boolean) (C := RX1) (T := TX1) (N := 4) hx hb hts hiX1 tyX1 tyX1_ok nmX1 hown hK hP hD hS 2 rfl rfl 0 (by decide) (hts (.fieldLink RX4 231 "RestRegisters$Sheet" "isThere" "Z") (by decide +kernel)) (fun _ h9 => h9) rfl (by decide +kernel) rfl rfl (Nat.le_of_ble_eq_true rfl) dX4_drop_28 (fun H locs hP hD hS => ?_)
    have hP : va_P (dC, dI) vwCl [(x0, .inr (4, [.ref t0, .ref b0, .ref k0, .int (bi im), .ref sa])), (sa, .inl (cS, 4, .inr (.inr (.inr (.inr (saF sd)))))), (sd sh, .inr (1, [.int (nI 0), .int (nI ln), .int (nI len), .ref (sq sh)])), (sq sh, .inl (cJ, 24, .inr (.inl row)))] H := hP
    have hD : va_D A [(x0, .inr (4, [.ref t0, .ref b0, .ref k0, .int (bi im), .ref sa])), (sa, .inl (cS, 4, .inr (.inr (.inr (.inr (saF sd)))))), (sd sh, .inr (1, [.int (nI 0), .int (nI ln), .int (nI len), .ref (sq sh)])), (sq sh, .inl (cJ, 24, .inr (.inl row)))] := hD
    refine lv_aload_n hx hb dX4_drop_31 rfl (lv_at hl 0 rfl) ?_
    refine va_get (D := (dC, dI)) (ci := 1) (v := .int (nI len)) (C := RX1) (T := TX1) (N := 4) hx hb hts hiX1 hown hK hP 2 rfl rfl 2 (by decide) (hts (.fieldLink RX4 234 "RestRegisters$Sheet" "length" "I") (by decide +kernel)) (fun _ h9 => h9) rfl dX4_drop_32 ?_
    exact rr_iretW hx hb hr hlocks dX4_drop_35 hP hD hS (rfl)
  exact absurd (c20.symm.trans hth) (by decide)
set_option maxHeartbeats 4000000 in
set_option maxRecDepth 100000 in
theorem c_X4_drop_n (l : Launch) (dC : Nat → ClassId) (dI : Nat → Nat → Nat) (cI cJ cS : ClassId) (x0 t0 b0 k0 sa : Nat) (im : Bool) (sd sq : Nat → Nat) (sh : Nat) (th : Bool) (ln len : Nat) (row : Nat → Int64) (hs4 : sh < 4) (hth : th = false) : Met l yX4_drop wsX4_drop ({ frames := 2, cells := 0, slots := 0, locals := 41 }) (va_Pc [.ref x0, .int (nI sh)] (rB (dC, dI) vwCl [(x0, .inr (4, [.ref t0, .ref b0, .ref k0, .int (bi im), .ref sa])), (sa, .inl (cS, 4, .inr (.inr (.inr (.inr (saF sd)))))), (sd sh, .inr (1, [.int (bi th), .int (nI ln), .int (nI len), .ref (sq sh)])), (sq sh, .inl (cJ, 24, .inr (.inl row)))] (tyz cI cJ cS))) (QcRead (-11)) 0 0 (fun _ => False) := by
  refine Met.ofW (cc := cX4_drop) (maxL := 3) (ret := (some .int)) (by decide) rfl ?_
  intro p e s m args below meth c s₁ B hml hv
  obtain ⟨rfl, hP, hKK⟩ := hv
  have hK := hKK.1
  have hx := B.exec
  have hb := B.bytes
  have hr := B.returns
  have hts := atoms_spec (ws := wsX4_drop) B.pre
  have hown : s.vm.findClass RX4 = some m.cls := findClass_of_methodNamed B.named
  have hlocks := B.notSynchronized
  have hiX1 : ∀ w ∈ wsX10, w ∈ wsX4_drop := by decide +kernel
  have hiX4 : ∀ w ∈ wsX40, w ∈ wsX4_drop := by decide +kernel
  have hl := lv_entry ([.ref x0, .int (nI sh)]) (n := 3) (Nat.le_of_ble_eq_true rfl)
  rw [lg_entry_eq]
  generalize (lg_sl ([.ref x0, .int (nI sh)]) ++ List.replicate (3 - (lg_sl ([.ref x0, .int (nI sh)])).length) Slot.unset).toArray = ls at hl ⊢
  have hl : lv_has ls 3 [(0, .ref x0), (1, .int (nI sh))] := hl
  refine lv_iload_n hx hb dX4_drop_0 rfl (lv_at hl 1 rfl) ?_
  refine rr_callR (va_runS (As := [.int (nI sh)]) (rest := []) ⟨hx, hb, hml, hown, hts⟩ (c_X4_isSheet l (nI sh) ) (va_cwS 1 hts gX4_drop_X4_isSheet rfl rfl rfl (by decide +kernel) ⟨Nat.le_of_ble_eq_true rfl, Nat.le_of_ble_eq_true rfl⟩) rr_preT rfl rfl hl.1 rfl (lv_room (Nat.le_of_ble_eq_true rfl)) dX4_drop_1 ⟨Nat.zero_le _, Nat.zero_le _⟩) ?_
  refine rr_top (y := bi true) (congrArg bi (inb_lt (by omega) (by omega))) ?_
  refine rb_if_ne (tgt := 9) hx hb dX4_drop_4 (by decide) (fun c4 => ?_) (fun c4 => ?_)
  rotate_left
  · exact absurd c4 (by decide)
  refine lv_aload_n hx hb dX4_drop_9 rfl (lv_at hl 0 rfl) ?_
  refine va_get (D := (dC, dI)) (ci := 4) (v := .ref sa) (C := RX4) (T := TX4) (N := 5) hx hb hts hiX4 hown hK hP 0 rfl rfl 4 (by decide) (hts (.fieldLink RX4 28 "RestRegisters" "sheets" "[LRestRegisters$Sheet;") (by decide +kernel)) (fun _ h9 => h9) rfl dX4_drop_10 ?_
  refine lv_iload_n hx hb dX4_drop_13 rfl (lv_at hl 1 rfl) ?_
  refine rn_aald hx hb hK hP 1 2 rfl rfl (i := sh) (by omega) (by decide) (v := sd sh) rfl dX4_drop_14 ?_
  refine lv_astore_n (lv' := [(2, .ref (sd sh)), (0, .ref x0), (1, .int (nI sh))]) hx hb dX4_drop_15 rfl hl (by decide) rfl (fun ls hl => ?_)
  refine lv_aload_n hx hb dX4_drop_16 rfl (lv_at hl 0 rfl) ?_
  refine va_get (D := (dC, dI)) (ci := 1) (v := .int (bi th)) (C := RX1) (T := TX1) (N := 4) hx hb hts hiX1 hown hK hP 2 rfl rfl 0 (by decide) (hts (.fieldLink RX4 231 "RestRegisters$Sheet" "isThere" "Z") (by decide +kernel)) (fun _ h9 => h9) rfl dX4_drop_17 ?_
  refine rb_if_ne (tgt := 26) hx hb dX4_drop_20 (by decide) (fun c20 => ?_) (fun c20 => ?_)
  · skip
    exact absurd (c20.symm.trans hth) (by decide)
  refine lv_bipush (v := (-11)) hx hb dX4_drop_23 (by decide) ?_
  exact rr_iret hx hb hr hlocks dX4_drop_25 (rfl)
set_option maxHeartbeats 4000000 in
set_option maxRecDepth 100000 in
theorem c_X4_drop_b (l : Launch) (dC : Nat → ClassId) (dI : Nat → Nat → Nat) (cI cJ cS : ClassId) (x0 t0 k0 sa : Nat) (im : Bool) (b0 h3 hk hw hs hrs hpr hpd : Nat) (n h rg sp dr kn nx : Nat) (kf wf sf : Nat → Int32) (Kd Wd Sh Rr Pr Pd : Nat → Nat) (x : Int32) (hbad : inb x 4 = false) : Met l yX4_drop wsX4_drop ({ frames := 2, cells := 0, slots := 0, locals := 41 }) (va_Pc [.ref x0, .int x] (rB (dC, dI) vwCl [(x0, .inr (4, [.ref t0, .ref b0, .ref k0, .int (bi im), .ref sa])), (b0, .inr (0, [.ref h3, .ref hrs, .int (nI dr), .int (nI kn), .int (nI nx), .ref hpr, .ref hpd])), (h3, .inr (3, [.int (nI n), .int (nI h), .int (nI rg), .int (nI sp), .ref hk, .ref hw, .ref hs])), (hk, .inl (cI, 6, .inl kf)), (hw, .inl (cI, 6, .inl wf)), (hs, .inl (cI, 6, .inl sf)), (hrs, .inl (cI, 24, .inl (nA Rr))), (hpr, .inl (cI, 192, .inl (nA Pr))), (hpd, .inl (cI, 8, .inl (nA Pd)))] (tyz cI cJ cS))) (QcRead (-1)) 0 0 (fun _ => False) := by
  refine Met.ofW (cc := cX4_drop) (maxL := 3) (ret := (some .int)) (by decide) rfl ?_
  intro p e s m args below meth c s₁ B hml hv
  obtain ⟨rfl, hP, hKK⟩ := hv
  have hK := hKK.1
  have hx := B.exec
  have hb := B.bytes
  have hr := B.returns
  have hts := atoms_spec (ws := wsX4_drop) B.pre
  have hown : s.vm.findClass RX4 = some m.cls := findClass_of_methodNamed B.named
  have hlocks := B.notSynchronized
  have hiX1 : ∀ w ∈ wsX10, w ∈ wsX4_drop := by decide +kernel
  have hiX4 : ∀ w ∈ wsX40, w ∈ wsX4_drop := by decide +kernel
  have hl := lv_entry ([.ref x0, .int x]) (n := 3) (Nat.le_of_ble_eq_true rfl)
  rw [lg_entry_eq]
  generalize (lg_sl ([.ref x0, .int x]) ++ List.replicate (3 - (lg_sl ([.ref x0, .int x])).length) Slot.unset).toArray = ls at hl ⊢
  have hl : lv_has ls 3 [(0, .ref x0), (1, .int x)] := hl
  refine lv_iload_n hx hb dX4_drop_0 rfl (lv_at hl 1 rfl) ?_
  refine rr_callR (va_runS (As := [.int x]) (rest := []) ⟨hx, hb, hml, hown, hts⟩ (c_X4_isSheet l x ) (va_cwS 1 hts gX4_drop_X4_isSheet rfl rfl rfl (by decide +kernel) ⟨Nat.le_of_ble_eq_true rfl, Nat.le_of_ble_eq_true rfl⟩) rr_preT rfl rfl hl.1 rfl (lv_room (Nat.le_of_ble_eq_true rfl)) dX4_drop_1 ⟨Nat.zero_le _, Nat.zero_le _⟩) ?_
  refine rb_if_ne (tgt := 9) hx hb dX4_drop_4 (by decide) (fun c4 => ?_) (fun c4 => ?_)
  · skip
    exact absurd hbad (by rw [c4]; decide)
  refine lv_iconst (v := (-1)) hx hb dX4_drop_7 (by decide) ?_
  exact rr_iret hx hb hr hlocks dX4_drop_8 (rfl)
set_option maxHeartbeats 4000000 in
set_option maxRecDepth 100000 in
theorem c_X4_item_g (l : Launch) (dC : Nat → ClassId) (dI : Nat → Nat → Nat) (cI cJ cS : ClassId) (sz : Nat) (x0 t0 b0 k0 sa : Nat) (im : Bool) (sd sq : Nat → Nat) (sh : Nat) (th : Bool) (ln len : Nat) (row : Nat → Int64) (wl : Int32) (a : Nat) (v : Int64) (hs4 : sh < 4) (hlen : len ≤ 24) (hwl : inb wl 4 = true) (href : refI th ln len wl (nI a) (nI 1) = nI 0) (has : a + 1 ≤ 24) : Met l yX4_item wsX4_item ({ frames := 2, cells := 0, slots := 0, locals := 45 }) (va_Pc [.ref x0, .int (nI sh), .int wl, .int (nI a), .long v] (rW (dC, dI) vwCl [(x0, .inr (4, [.ref t0, .ref b0, .ref k0, .int (bi im), .ref sa])), (sa, .inl (cS, 4, .inr (.inr (.inr (.inr (saF sd)))))), (sd sh, .inr (1, [.int (bi th), .int (nI ln), .int (nI len), .ref (sq sh)])), (sq sh, .inl (cJ, 24, .inr (.inl row)))] (tyz cI cJ cS) sz)) (qI (nI 1) (dC, dI) vwCl [(x0, .inr (4, [.ref t0, .ref b0, .ref k0, .int (bi im), .ref sa])), (sa, .inl (cS, 4, .inr (.inr (.inr (.inr (saF sd)))))), (sd sh, .inr (1, [.int (bi th), .int (nI ln), .int (nI len), .ref (sq sh)])), (sq sh, .inl (cJ, 24, .inr (.inl (vp_updL row a (cutL wl v)))))] (va_A [(x0, .inr (4, [.ref t0, .ref b0, .ref k0, .int (bi im), .ref sa])), (sa, .inl (cS, 4, .inr (.inr (.inr (.inr (saF sd)))))), (sd sh, .inr (1, [.int (bi th), .int (nI ln), .int (nI len), .ref (sq sh)])), (sq sh, .inl (cJ, 24, .inr (.inl row)))] sz)) 0 0 (va_A [(x0, .inr (4, [.ref t0, .ref b0, .ref k0, .int (bi im), .ref sa])), (sa, .inl (cS, 4, .inr (.inr (.inr (.inr (saF sd)))))), (sd sh, .inr (1, [.int (bi th), .int (nI ln), .int (nI len), .ref (sq sh)])), (sq sh, .inl (cJ, 24, .inr (.inl row)))] sz) := by
  refine Met.ofW (cc := cX4_item) (maxL := 8) (ret := (some .int)) (by decide) rfl ?_
  intro p e s m args below meth c s₁ B hml hv
  obtain ⟨rfl, hsz, hP, hKK, hD0⟩ := hv
  have hK := hKK.1
  have hx := B.exec
  have hb := B.bytes
  have hr := B.returns
  have hts := atoms_spec (ws := wsX4_item) B.pre
  have hown : s.vm.findClass RX4 = some m.cls := findClass_of_methodNamed B.named
  have hlocks := B.notSynchronized
  subst hsz
  have hD := hD0.self (sz := s.heap.size)
  generalize hAe : va_A [(x0, .inr (4, [.ref t0, .ref b0, .ref k0, .int (bi im), .ref sa])), (sa, .inl (cS, 4, .inr (.inr (.inr (.inr (saF sd)))))), (sd sh, .inr (1, [.int (bi th), .int (nI ln), .int (nI len), .ref (sq sh)])), (sq sh, .inl (cJ, 24, .inr (.inl row)))] s.heap.size = A at hD ⊢
  have hA : ∀ q : Nat, s.heap.size ≤ q → A q := fun q h => by rw [← hAe]; exact Or.inr h
  have hS : va_S A s.heap s.heap [] := va_S.rf
  have hP : va_P (dC, dI) vwCl [(x0, .inr (4, [.ref t0, .ref b0, .ref k0, .int (bi im), .ref sa])), (sa, .inl (cS, 4, .inr (.inr (.inr (.inr (saF sd)))))), (sd sh, .inr (1, [.int (bi th), .int (nI ln), .int (nI len), .ref (sq sh)])), (sq sh, .inl (cJ, 24, .inr (.inl row)))] s.heap := hP
  have hiX1 : ∀ w ∈ wsX10, w ∈ wsX4_item := by decide +kernel
  have hiX4 : ∀ w ∈ wsX40, w ∈ wsX4_item := by decide +kernel
  have hl := lv_entry ([.ref x0, .int (nI sh), .int wl, .int (nI a), .long v]) (n := 8) (Nat.le_of_ble_eq_true rfl)
  rw [lg_entry_eq]
  generalize (lg_sl ([.ref x0, .int (nI sh), .int wl, .int (nI a), .long v]) ++ List.replicate (8 - (lg_sl ([.ref x0, .int (nI sh), .int wl, .int (nI a), .long v])).length) Slot.unset).toArray = ls at hl ⊢
  have hl : lv_has ls 8 [(0, .ref x0), (1, .int (nI sh)), (2, .int wl), (3, .int (nI a)), (4, .long v)] := hl
  refine lv_iload_n hx hb dX4_item_0 rfl (lv_at hl 1 rfl) ?_
  refine rr_callR (va_runS (As := [.int (nI sh)]) (rest := []) ⟨hx, hb, hml, hown, hts⟩ (c_X4_isSheet l (nI sh) ) (va_cwS 1 hts gX4_item_X4_isSheet rfl rfl rfl (by decide +kernel) ⟨Nat.le_of_ble_eq_true rfl, Nat.le_of_ble_eq_true rfl⟩) rr_preT rfl rfl hl.1 rfl (lv_room (Nat.le_of_ble_eq_true rfl)) dX4_item_1 ⟨Nat.zero_le _, Nat.zero_le _⟩) ?_
  refine rr_top (y := bi true) (congrArg bi (inb_lt (by omega) (by omega))) ?_
  refine rb_if_eq (tgt := 14) hx hb dX4_item_4 (by decide) (fun c4 => ?_) (fun c4 => ?_)
  · exact absurd c4 (by decide)
  refine lv_iload_n hx hb dX4_item_7 rfl (lv_at hl 2 rfl) ?_
  refine rr_callR (va_runS (As := [.int wl]) (rest := []) ⟨hx, hb, hml, hown, hts⟩ (c_X4_isLane l wl ) (va_cwS 1 hts gX4_item_X4_isLane rfl rfl rfl (by decide +kernel) ⟨Nat.le_of_ble_eq_true rfl, Nat.le_of_ble_eq_true rfl⟩) rr_preT rfl rfl hl.1 rfl (lv_room (Nat.le_of_ble_eq_true rfl)) dX4_item_8 ⟨Nat.zero_le _, Nat.zero_le _⟩) ?_
  refine rr_top (y := (bi true)) (congrArg bi hwl) ?_
  refine rb_if_ne (tgt := 16) hx hb dX4_item_11 (by decide) (fun c11 => ?_) (fun c11 => ?_)
  rotate_left
  · exact absurd c11 (by decide)
  refine lv_aload_n hx hb dX4_item_16 rfl (lv_at hl 0 rfl) ?_
  refine va_get (D := (dC, dI)) (ci := 4) (v := .ref sa) (C := RX4) (T := TX4) (N := 5) hx hb hts hiX4 hown hK hP 0 rfl rfl 4 (by decide) (hts (.fieldLink RX4 28 "RestRegisters" "sheets" "[LRestRegisters$Sheet;") (by decide +kernel)) (fun _ h9 => h9) rfl dX4_item_17 ?_
  refine lv_iload_n hx hb dX4_item_20 rfl (lv_at hl 1 rfl) ?_
  refine rn_aald hx hb hK hP 1 2 rfl rfl (i := sh) (by omega) (by decide) (v := sd sh) rfl dX4_item_21 ?_
  refine lv_astore (lv' := [(6, .ref (sd sh)), (0, .ref x0), (1, .int (nI sh)), (2, .int wl), (3, .int (nI a)), (4, .long v)]) hx hb dX4_item_22 hl (by decide) rfl (fun ls hl => ?_)
  refine lv_aload hx hb dX4_item_24 (lv_at hl 0 rfl) ?_
  refine lv_iload_n hx hb dX4_item_26 rfl (lv_at hl 3 rfl) ?_
  refine lv_iload_n hx hb dX4_item_27 rfl (lv_at hl 4 rfl) ?_
  refine lv_iconst (v := (nI 1)) hx hb dX4_item_28 (by decide) ?_
  refine rr_callR (va_runV (As := [.int wl, .int (nI a), .int (nI 1)]) (rest := []) ⟨hx, hb, hml, hown, hts⟩ (c_X1_refusal l dC dI cI cJ cS (sd sh) (sq sh) th ln len row wl (nI a) (nI 1) (by first | assumption | omega)) (cwV 3 hts gX4_item_X1_refusal rfl rfl rfl (by decide +kernel) ⟨Nat.le_of_ble_eq_true rfl, Nat.le_of_ble_eq_true rfl⟩) (rr_preV hKK (hP.sub [2, 3] rfl) rfl rfl) rfl rfl hl.1 rfl (lv_room (Nat.le_of_ble_eq_true rfl)) dX4_item_29 ⟨Nat.zero_le _, Nat.zero_le _⟩) ?_
  refine rr_top (y := nI 0) href ?_
  refine lv_istore (lv' := [(7, .int (nI 0)), (6, .ref (sd sh)), (0, .ref x0), (1, .int (nI sh)), (2, .int wl), (3, .int (nI a)), (4, .long v)]) hx hb dX4_item_32 hl (by decide) rfl (fun ls hl => ?_)
  refine lv_iload hx hb dX4_item_34 (lv_at hl 0 rfl) ?_
  refine rn_if_eq (tgt := 42) hx hb dX4_item_36 (by decide) (by omega) (fun c36 => ?_) (fun c36 => ?_)
  · skip
    refine lv_aload hx hb dX4_item_42 (lv_at hl 1 rfl) ?_
    refine va_get (D := (dC, dI)) (ci := 1) (v := .ref (sq sh)) (C := RX1) (T := TX1) (N := 4) hx hb hts hiX1 hown hK hP 2 rfl rfl 3 (by decide) (hts (.fieldLink RX4 210 "RestRegisters$Sheet" "items" "[J") (by decide +kernel)) (fun _ h9 => h9) rfl dX4_item_44 ?_
    refine lv_iload_n hx hb dX4_item_47 rfl (lv_at hl 5 rfl) ?_
    refine lv_iload_n hx hb dX4_item_48 rfl (lv_at hl 4 rfl) ?_
    refine lv_lload hx hb dX4_item_49 (lv_at hl 6 rfl) ?_
    refine rr_callRL (va_runS (As := [.int wl, .long v]) (rest := [.int (nI a), .ref (sq sh)]) ⟨hx, hb, hml, hown, hts⟩ (c_X1_lowestBits l wl v ) (va_cwS 2 hts gX4_item_X1_lowestBits rfl rfl rfl (by decide +kernel) ⟨Nat.le_of_ble_eq_true rfl, Nat.le_of_ble_eq_true rfl⟩) rr_preT rfl rfl hl.1 rfl (lv_room (Nat.le_of_ble_eq_true rfl)) dX4_item_51 ⟨Nat.zero_le _, Nat.zero_le _⟩) ?_
    refine rn_last hx hb hK hP hD hS 3 1 rfl rfl (i := a) (by omega) (by decide) (g := vp_updL row a (cutL wl v)) rfl dX4_item_54 (fun H locs hP hD hS => ?_)
    have hP : va_P (dC, dI) vwCl [(x0, .inr (4, [.ref t0, .ref b0, .ref k0, .int (bi im), .ref sa])), (sa, .inl (cS, 4, .inr (.inr (.inr (.inr (saF sd)))))), (sd sh, .inr (1, [.int (bi th), .int (nI ln), .int (nI len), .ref (sq sh)])), (sq sh, .inl (cJ, 24, .inr (.inl (vp_updL row a (cutL wl v)))))] H := hP
    have hD : va_D A [(x0, .inr (4, [.ref t0, .ref b0, .ref k0, .int (bi im), .ref sa])), (sa, .inl (cS, 4, .inr (.inr (.inr (.inr (saF sd)))))), (sd sh, .inr (1, [.int (bi th), .int (nI ln), .int (nI len), .ref (sq sh)])), (sq sh, .inl (cJ, 24, .inr (.inl (vp_updL row a (cutL wl v)))))] := hD
    refine lv_iconst (v := (nI 1)) hx hb dX4_item_55 (by decide) ?_
    exact rr_iretW hx hb hr hlocks dX4_item_56 hP hD hS (rfl)
  exact absurd rfl c36
set_option maxHeartbeats 4000000 in
set_option maxRecDepth 100000 in
theorem c_X4_item_r (l : Launch) (dC : Nat → ClassId) (dI : Nat → Nat → Nat) (cI cJ cS : ClassId) (x0 t0 b0 k0 sa : Nat) (im : Bool) (sd sq : Nat → Nat) (sh : Nat) (th : Bool) (ln len : Nat) (row : Nat → Int64) (wl i : Int32) (v : Int64) (hs4 : sh < 4) (hlen : len ≤ 24) (hwl : inb wl 4 = true) (href : ¬ refI th ln len wl i (nI 1) = nI 0) : Met l yX4_item wsX4_item ({ frames := 2, cells := 0, slots := 0, locals := 45 }) (va_Pc [.ref x0, .int (nI sh), .int wl, .int i, .long v] (rB (dC, dI) vwCl [(x0, .inr (4, [.ref t0, .ref b0, .ref k0, .int (bi im), .ref sa])), (sa, .inl (cS, 4, .inr (.inr (.inr (.inr (saF sd)))))), (sd sh, .inr (1, [.int (bi th), .int (nI ln), .int (nI len), .ref (sq sh)])), (sq sh, .inl (cJ, 24, .inr (.inl row)))] (tyz cI cJ cS))) (QcRead (refI th ln len wl i (nI 1))) 0 0 (fun _ => False) := by
  refine Met.ofW (cc := cX4_item) (maxL := 8) (ret := (some .int)) (by decide) rfl ?_
  intro p e s m args below meth c s₁ B hml hv
  obtain ⟨rfl, hP, hKK⟩ := hv
  have hK := hKK.1
  have hx := B.exec
  have hb := B.bytes
  have hr := B.returns
  have hts := atoms_spec (ws := wsX4_item) B.pre
  have hown : s.vm.findClass RX4 = some m.cls := findClass_of_methodNamed B.named
  have hlocks := B.notSynchronized
  have hiX1 : ∀ w ∈ wsX10, w ∈ wsX4_item := by decide +kernel
  have hiX4 : ∀ w ∈ wsX40, w ∈ wsX4_item := by decide +kernel
  have hl := lv_entry ([.ref x0, .int (nI sh), .int wl, .int i, .long v]) (n := 8) (Nat.le_of_ble_eq_true rfl)
  rw [lg_entry_eq]
  generalize (lg_sl ([.ref x0, .int (nI sh), .int wl, .int i, .long v]) ++ List.replicate (8 - (lg_sl ([.ref x0, .int (nI sh), .int wl, .int i, .long v])).length) Slot.unset).toArray = ls at hl ⊢
  have hl : lv_has ls 8 [(0, .ref x0), (1, .int (nI sh)), (2, .int wl), (3, .int i), (4, .long v)] := hl
  refine lv_iload_n hx hb dX4_item_0 rfl (lv_at hl 1 rfl) ?_
  refine rr_callR (va_runS (As := [.int (nI sh)]) (rest := []) ⟨hx, hb, hml, hown, hts⟩ (c_X4_isSheet l (nI sh) ) (va_cwS 1 hts gX4_item_X4_isSheet rfl rfl rfl (by decide +kernel) ⟨Nat.le_of_ble_eq_true rfl, Nat.le_of_ble_eq_true rfl⟩) rr_preT rfl rfl hl.1 rfl (lv_room (Nat.le_of_ble_eq_true rfl)) dX4_item_1 ⟨Nat.zero_le _, Nat.zero_le _⟩) ?_
  refine rr_top (y := bi true) (congrArg bi (inb_lt (by omega) (by omega))) ?_
  refine rb_if_eq (tgt := 14) hx hb dX4_item_4 (by decide) (fun c4 => ?_) (fun c4 => ?_)
  · exact absurd c4 (by decide)
  refine lv_iload_n hx hb dX4_item_7 rfl (lv_at hl 2 rfl) ?_
  refine rr_callR (va_runS (As := [.int wl]) (rest := []) ⟨hx, hb, hml, hown, hts⟩ (c_X4_isLane l wl ) (va_cwS 1 hts gX4_item_X4_isLane rfl rfl rfl (by decide +kernel) ⟨Nat.le_of_ble_eq_true rfl, Nat.le_of_ble_eq_true rfl⟩) rr_preT rfl rfl hl.1 rfl (lv_room (Nat.le_of_ble_eq_true rfl)) dX4_item_8 ⟨Nat.zero_le _, Nat.zero_le _⟩) ?_
  refine rr_top (y := (bi true)) (congrArg bi hwl) ?_
  refine rb_if_ne (tgt := 16) hx hb dX4_item_11 (by decide) (fun c11 => ?_) (fun c11 => ?_)
  rotate_left
  · exact absurd c11 (by decide)
  refine lv_aload_n hx hb dX4_item_16 rfl (lv_at hl 0 rfl) ?_
  refine va_get (D := (dC, dI)) (ci := 4) (v := .ref sa) (C := RX4) (T := TX4) (N := 5) hx hb hts hiX4 hown hK hP 0 rfl rfl 4 (by decide) (hts (.fieldLink RX4 28 "RestRegisters" "sheets" "[LRestRegisters$Sheet;") (by decide +kernel)) (fun _ h9 => h9) rfl dX4_item_17 ?_
  refine lv_iload_n hx hb dX4_item_20 rfl (lv_at hl 1 rfl) ?_
  refine rn_aald hx hb hK hP 1 2 rfl rfl (i := sh) (by omega) (by decide) (v := sd sh) rfl dX4_item_21 ?_
  refine lv_astore (lv' := [(6, .ref (sd sh)), (0, .ref x0), (1, .int (nI sh)), (2, .int wl), (3, .int i), (4, .long v)]) hx hb dX4_item_22 hl (by decide) rfl (fun ls hl => ?_)
  refine lv_aload hx hb dX4_item_24 (lv_at hl 0 rfl) ?_
  refine lv_iload_n hx hb dX4_item_26 rfl (lv_at hl 3 rfl) ?_
  refine lv_iload_n hx hb dX4_item_27 rfl (lv_at hl 4 rfl) ?_
  refine lv_iconst (v := (nI 1)) hx hb dX4_item_28 (by decide) ?_
  refine rr_callR (va_runV (As := [.int wl, .int i, .int (nI 1)]) (rest := []) ⟨hx, hb, hml, hown, hts⟩ (c_X1_refusal l dC dI cI cJ cS (sd sh) (sq sh) th ln len row wl i (nI 1) (by first | assumption | omega)) (cwV 3 hts gX4_item_X1_refusal rfl rfl rfl (by decide +kernel) ⟨Nat.le_of_ble_eq_true rfl, Nat.le_of_ble_eq_true rfl⟩) (rr_preV hKK (hP.sub [2, 3] rfl) rfl rfl) rfl rfl hl.1 rfl (lv_room (Nat.le_of_ble_eq_true rfl)) dX4_item_29 ⟨Nat.zero_le _, Nat.zero_le _⟩) ?_
  refine lv_istore (lv' := [(7, .int (refI th ln len wl i (nI 1))), (6, .ref (sd sh)), (0, .ref x0), (1, .int (nI sh)), (2, .int wl), (3, .int i), (4, .long v)]) hx hb dX4_item_32 hl (by decide) rfl (fun ls hl => ?_)
  refine lv_iload hx hb dX4_item_34 (lv_at hl 0 rfl) ?_
  refine lv_if_eq (tgt := 42) hx hb dX4_item_36 (by decide) (fun c36 => ?_) (fun c36 => ?_)
  · skip
    exact absurd (c36.trans nI_0.symm) href
  refine lv_iload hx hb dX4_item_39 (lv_at hl 0 rfl) ?_
  exact rr_iret hx hb hr hlocks dX4_item_41 (rfl)
set_option maxHeartbeats 4000000 in
set_option maxRecDepth 100000 in
theorem c_X4_item_b (l : Launch) (dC : Nat → ClassId) (dI : Nat → Nat → Nat) (cI cJ cS : ClassId) (x0 t0 k0 sa : Nat) (im : Bool) (b0 h3 hk hw hs hrs hpr hpd : Nat) (n h rg sp dr kn nx : Nat) (kf wf sf : Nat → Int32) (Kd Wd Sh Rr Pr Pd : Nat → Nat) (x y i : Int32) (v : Int64) (hbad : (inb x 4 && inb y 4) = false) : Met l yX4_item wsX4_item ({ frames := 2, cells := 0, slots := 0, locals := 45 }) (va_Pc [.ref x0, .int x, .int y, .int i, .long v] (rB (dC, dI) vwCl [(x0, .inr (4, [.ref t0, .ref b0, .ref k0, .int (bi im), .ref sa])), (b0, .inr (0, [.ref h3, .ref hrs, .int (nI dr), .int (nI kn), .int (nI nx), .ref hpr, .ref hpd])), (h3, .inr (3, [.int (nI n), .int (nI h), .int (nI rg), .int (nI sp), .ref hk, .ref hw, .ref hs])), (hk, .inl (cI, 6, .inl kf)), (hw, .inl (cI, 6, .inl wf)), (hs, .inl (cI, 6, .inl sf)), (hrs, .inl (cI, 24, .inl (nA Rr))), (hpr, .inl (cI, 192, .inl (nA Pr))), (hpd, .inl (cI, 8, .inl (nA Pd)))] (tyz cI cJ cS))) (QcRead (-1)) 0 0 (fun _ => False) := by
  refine Met.ofW (cc := cX4_item) (maxL := 8) (ret := (some .int)) (by decide) rfl ?_
  intro p e s m args below meth c s₁ B hml hv
  obtain ⟨rfl, hP, hKK⟩ := hv
  have hK := hKK.1
  have hx := B.exec
  have hb := B.bytes
  have hr := B.returns
  have hts := atoms_spec (ws := wsX4_item) B.pre
  have hown : s.vm.findClass RX4 = some m.cls := findClass_of_methodNamed B.named
  have hlocks := B.notSynchronized
  have hiX1 : ∀ w ∈ wsX10, w ∈ wsX4_item := by decide +kernel
  have hiX4 : ∀ w ∈ wsX40, w ∈ wsX4_item := by decide +kernel
  have hl := lv_entry ([.ref x0, .int x, .int y, .int i, .long v]) (n := 8) (Nat.le_of_ble_eq_true rfl)
  rw [lg_entry_eq]
  generalize (lg_sl ([.ref x0, .int x, .int y, .int i, .long v]) ++ List.replicate (8 - (lg_sl ([.ref x0, .int x, .int y, .int i, .long v])).length) Slot.unset).toArray = ls at hl ⊢
  have hl : lv_has ls 8 [(0, .ref x0), (1, .int x), (2, .int y), (3, .int i), (4, .long v)] := hl
  refine lv_iload_n hx hb dX4_item_0 rfl (lv_at hl 1 rfl) ?_
  refine rr_callR (va_runS (As := [.int x]) (rest := []) ⟨hx, hb, hml, hown, hts⟩ (c_X4_isSheet l x ) (va_cwS 1 hts gX4_item_X4_isSheet rfl rfl rfl (by decide +kernel) ⟨Nat.le_of_ble_eq_true rfl, Nat.le_of_ble_eq_true rfl⟩) rr_preT rfl rfl hl.1 rfl (lv_room (Nat.le_of_ble_eq_true rfl)) dX4_item_1 ⟨Nat.zero_le _, Nat.zero_le _⟩) ?_
  refine rb_if_eq (tgt := 14) hx hb dX4_item_4 (by decide) (fun c4 => ?_) (fun c4 => ?_)
  · skip
    refine lv_iconst (v := (-1)) hx hb dX4_item_14 (by decide) ?_
    exact rr_iret hx hb hr hlocks dX4_item_15 (rfl)
  refine lv_iload_n hx hb dX4_item_7 rfl (lv_at hl 2 rfl) ?_
  refine rr_callR (va_runS (As := [.int y]) (rest := []) ⟨hx, hb, hml, hown, hts⟩ (c_X4_isLane l y ) (va_cwS 1 hts gX4_item_X4_isLane rfl rfl rfl (by decide +kernel) ⟨Nat.le_of_ble_eq_true rfl, Nat.le_of_ble_eq_true rfl⟩) rr_preT rfl rfl hl.1 rfl (lv_room (Nat.le_of_ble_eq_true rfl)) dX4_item_8 ⟨Nat.zero_le _, Nat.zero_le _⟩) ?_
  refine rb_if_ne (tgt := 16) hx hb dX4_item_11 (by decide) (fun c11 => ?_) (fun c11 => ?_)
  · skip
    exact absurd hbad (by rw [c4, c11]; decide)
  refine lv_iconst (v := (-1)) hx hb dX4_item_14 (by decide) ?_
  exact rr_iret hx hb hr hlocks dX4_item_15 (rfl)
set_option maxHeartbeats 4000000 in
set_option maxRecDepth 100000 in
theorem c_X4_copy_b (l : Launch) (dC : Nat → ClassId) (dI : Nat → Nat → Nat) (cI cJ cS : ClassId) (x0 t0 k0 sa : Nat) (im : Bool) (b0 h3 hk hw hs hrs hpr hpd : Nat) (n h rg sp dr kn nx : Nat) (kf wf sf : Nat → Int32) (Kd Wd Sh Rr Pr Pd : Nat → Nat) (x i y j z : Int32) (hbad : (inb x 4 && inb y 4) = false) : Met l yX4_copy wsX4_copy ({ frames := 2, cells := 0, slots := 0, locals := 60 }) (va_Pc [.ref x0, .int x, .int i, .int y, .int j, .int z] (rB (dC, dI) vwCl [(x0, .inr (4, [.ref t0, .ref b0, .ref k0, .int (bi im), .ref sa])), (b0, .inr (0, [.ref h3, .ref hrs, .int (nI dr), .int (nI kn), .int (nI nx), .ref hpr, .ref hpd])), (h3, .inr (3, [.int (nI n), .int (nI h), .int (nI rg), .int (nI sp), .ref hk, .ref hw, .ref hs])), (hk, .inl (cI, 6, .inl kf)), (hw, .inl (cI, 6, .inl wf)), (hs, .inl (cI, 6, .inl sf)), (hrs, .inl (cI, 24, .inl (nA Rr))), (hpr, .inl (cI, 192, .inl (nA Pr))), (hpd, .inl (cI, 8, .inl (nA Pd)))] (tyz cI cJ cS))) (QcRead (-1)) 0 0 (fun _ => False) := by
  refine Met.ofW (cc := cX4_copy) (maxL := 8) (ret := (some .int)) (by decide) rfl ?_
  intro p e s m args below meth c s₁ B hml hv
  obtain ⟨rfl, hP, hKK⟩ := hv
  have hK := hKK.1
  have hx := B.exec
  have hb := B.bytes
  have hr := B.returns
  have hts := atoms_spec (ws := wsX4_copy) B.pre
  have hown : s.vm.findClass RX4 = some m.cls := findClass_of_methodNamed B.named
  have hlocks := B.notSynchronized
  have hiX1 : ∀ w ∈ wsX10, w ∈ wsX4_copy := by decide +kernel
  have hiX4 : ∀ w ∈ wsX40, w ∈ wsX4_copy := by decide +kernel
  have hl := lv_entry ([.ref x0, .int x, .int i, .int y, .int j, .int z]) (n := 8) (Nat.le_of_ble_eq_true rfl)
  rw [lg_entry_eq]
  generalize (lg_sl ([.ref x0, .int x, .int i, .int y, .int j, .int z]) ++ List.replicate (8 - (lg_sl ([.ref x0, .int x, .int i, .int y, .int j, .int z])).length) Slot.unset).toArray = ls at hl ⊢
  have hl : lv_has ls 8 [(0, .ref x0), (1, .int x), (2, .int i), (3, .int y), (4, .int j), (5, .int z)] := hl
  refine lv_iload_n hx hb dX4_copy_0 rfl (lv_at hl 1 rfl) ?_
  refine rr_callR (va_runS (As := [.int x]) (rest := []) ⟨hx, hb, hml, hown, hts⟩ (c_X4_isSheet l x ) (va_cwS 1 hts gX4_copy_X4_isSheet rfl rfl rfl (by decide +kernel) ⟨Nat.le_of_ble_eq_true rfl, Nat.le_of_ble_eq_true rfl⟩) rr_preT rfl rfl hl.1 rfl (lv_room (Nat.le_of_ble_eq_true rfl)) dX4_copy_1 ⟨Nat.zero_le _, Nat.zero_le _⟩) ?_
  refine rb_if_eq (tgt := 14) hx hb dX4_copy_4 (by decide) (fun c4 => ?_) (fun c4 => ?_)
  · skip
    refine lv_iconst (v := (-1)) hx hb dX4_copy_14 (by decide) ?_
    exact rr_iret hx hb hr hlocks dX4_copy_15 (rfl)
  refine lv_iload_n hx hb dX4_copy_7 rfl (lv_at hl 3 rfl) ?_
  refine rr_callR (va_runS (As := [.int y]) (rest := []) ⟨hx, hb, hml, hown, hts⟩ (c_X4_isSheet l y ) (va_cwS 1 hts gX4_copy_X4_isSheet rfl rfl rfl (by decide +kernel) ⟨Nat.le_of_ble_eq_true rfl, Nat.le_of_ble_eq_true rfl⟩) rr_preT rfl rfl hl.1 rfl (lv_room (Nat.le_of_ble_eq_true rfl)) dX4_copy_8 ⟨Nat.zero_le _, Nat.zero_le _⟩) ?_
  refine rb_if_ne (tgt := 16) hx hb dX4_copy_11 (by decide) (fun c11 => ?_) (fun c11 => ?_)
  · skip
    exact absurd hbad (by rw [c4, c11]; decide)
  refine lv_iconst (v := (-1)) hx hb dX4_copy_14 (by decide) ?_
  exact rr_iret hx hb hr hlocks dX4_copy_15 (rfl)
set_option maxHeartbeats 4000000 in
set_option maxRecDepth 100000 in
theorem c_X4_copy_c (l : Launch) (dC : Nat → ClassId) (dI : Nat → Nat → Nat) (cI cJ cS : ClassId) (x0 t0 b0 k0 sa : Nat) (im : Bool) (sd sq : Nat → Nat) (sh : Nat) (th : Bool) (ln len : Nat) (row : Nat → Int64) (sg : Nat) (tg : Bool) (lg leg : Nat) (rog : Nat → Int64) (i j z : Int32) (hs4 : sh < 4) (hlen : len ≤ 24) (hg4 : sg < 4) (hleg : leg ≤ 24) (hth : th = true) (htg : tg = true) (hln : ln ≠ lg) (hl3 : ln ≤ 3) (hg3 : lg ≤ 3) : Met l yX4_copy wsX4_copy ({ frames := 2, cells := 0, slots := 0, locals := 60 }) (va_Pc [.ref x0, .int (nI sh), .int i, .int (nI sg), .int j, .int z] (rB (dC, dI) vwCl [(x0, .inr (4, [.ref t0, .ref b0, .ref k0, .int (bi im), .ref sa])), (sa, .inl (cS, 4, .inr (.inr (.inr (.inr (saF sd)))))), (sd sh, .inr (1, [.int (bi th), .int (nI ln), .int (nI len), .ref (sq sh)])), (sq sh, .inl (cJ, 24, .inr (.inl row))), (sd sg, .inr (1, [.int (bi tg), .int (nI lg), .int (nI leg), .ref (sq sg)])), (sq sg, .inl (cJ, 24, .inr (.inl rog)))] (tyz cI cJ cS))) (QcRead (-12)) 0 0 (fun _ => False) := by
  refine Met.ofW (cc := cX4_copy) (maxL := 8) (ret := (some .int)) (by decide) rfl ?_
  intro p e s m args below meth c s₁ B hml hv
  obtain ⟨rfl, hP, hKK⟩ := hv
  have hK := hKK.1
  have hx := B.exec
  have hb := B.bytes
  have hr := B.returns
  have hts := atoms_spec (ws := wsX4_copy) B.pre
  have hown : s.vm.findClass RX4 = some m.cls := findClass_of_methodNamed B.named
  have hlocks := B.notSynchronized
  have hiX1 : ∀ w ∈ wsX10, w ∈ wsX4_copy := by decide +kernel
  have hiX4 : ∀ w ∈ wsX40, w ∈ wsX4_copy := by decide +kernel
  have hl := lv_entry ([.ref x0, .int (nI sh), .int i, .int (nI sg), .int j, .int z]) (n := 8) (Nat.le_of_ble_eq_true rfl)
  rw [lg_entry_eq]
  generalize (lg_sl ([.ref x0, .int (nI sh), .int i, .int (nI sg), .int j, .int z]) ++ List.replicate (8 - (lg_sl ([.ref x0, .int (nI sh), .int i, .int (nI sg), .int j, .int z])).length) Slot.unset).toArray = ls at hl ⊢
  have hl : lv_has ls 8 [(0, .ref x0), (1, .int (nI sh)), (2, .int i), (3, .int (nI sg)), (4, .int j), (5, .int z)] := hl
  refine lv_iload_n hx hb dX4_copy_0 rfl (lv_at hl 1 rfl) ?_
  refine rr_callR (va_runS (As := [.int (nI sh)]) (rest := []) ⟨hx, hb, hml, hown, hts⟩ (c_X4_isSheet l (nI sh) ) (va_cwS 1 hts gX4_copy_X4_isSheet rfl rfl rfl (by decide +kernel) ⟨Nat.le_of_ble_eq_true rfl, Nat.le_of_ble_eq_true rfl⟩) rr_preT rfl rfl hl.1 rfl (lv_room (Nat.le_of_ble_eq_true rfl)) dX4_copy_1 ⟨Nat.zero_le _, Nat.zero_le _⟩) ?_
  refine rr_top (y := bi true) (congrArg bi (inb_lt (by omega) (by omega))) ?_
  refine rb_if_eq (tgt := 14) hx hb dX4_copy_4 (by decide) (fun c4 => ?_) (fun c4 => ?_)
  · exact absurd c4 (by decide)
  refine lv_iload_n hx hb dX4_copy_7 rfl (lv_at hl 3 rfl) ?_
  refine rr_callR (va_runS (As := [.int (nI sg)]) (rest := []) ⟨hx, hb, hml, hown, hts⟩ (c_X4_isSheet l (nI sg) ) (va_cwS 1 hts gX4_copy_X4_isSheet rfl rfl rfl (by decide +kernel) ⟨Nat.le_of_ble_eq_true rfl, Nat.le_of_ble_eq_true rfl⟩) rr_preT rfl rfl hl.1 rfl (lv_room (Nat.le_of_ble_eq_true rfl)) dX4_copy_8 ⟨Nat.zero_le _, Nat.zero_le _⟩) ?_
  refine rr_top (y := bi true) (congrArg bi (inb_lt (by omega) (by omega))) ?_
  refine rb_if_ne (tgt := 16) hx hb dX4_copy_11 (by decide) (fun c11 => ?_) (fun c11 => ?_)
  rotate_left
  · exact absurd c11 (by decide)
  refine lv_aload_n hx hb dX4_copy_16 rfl (lv_at hl 0 rfl) ?_
  refine va_get (D := (dC, dI)) (ci := 4) (v := .ref sa) (C := RX4) (T := TX4) (N := 5) hx hb hts hiX4 hown hK hP 0 rfl rfl 4 (by decide) (hts (.fieldLink RX4 28 "RestRegisters" "sheets" "[LRestRegisters$Sheet;") (by decide +kernel)) (fun _ h9 => h9) rfl dX4_copy_17 ?_
  refine lv_iload_n hx hb dX4_copy_20 rfl (lv_at hl 1 rfl) ?_
  refine rn_aald hx hb hK hP 1 2 rfl rfl (i := sh) (by omega) (by decide) (v := sd sh) rfl dX4_copy_21 ?_
  refine lv_astore (lv' := [(6, .ref (sd sh)), (0, .ref x0), (1, .int (nI sh)), (2, .int i), (3, .int (nI sg)), (4, .int j), (5, .int z)]) hx hb dX4_copy_22 hl (by decide) rfl (fun ls hl => ?_)
  refine lv_aload_n hx hb dX4_copy_24 rfl (lv_at hl 1 rfl) ?_
  refine va_get (D := (dC, dI)) (ci := 4) (v := .ref sa) (C := RX4) (T := TX4) (N := 5) hx hb hts hiX4 hown hK hP 0 rfl rfl 4 (by decide) (hts (.fieldLink RX4 28 "RestRegisters" "sheets" "[LRestRegisters$Sheet;") (by decide +kernel)) (fun _ h9 => h9) rfl dX4_copy_25 ?_
  refine lv_iload_n hx hb dX4_copy_28 rfl (lv_at hl 4 rfl) ?_
  refine rn_aald hx hb hK hP 1 2 rfl rfl (i := sg) (by omega) (by decide) (v := sd sg) rfl dX4_copy_29 ?_
  refine lv_astore (lv' := [(7, .ref (sd sg)), (6, .ref (sd sh)), (0, .ref x0), (1, .int (nI sh)), (2, .int i), (3, .int (nI sg)), (4, .int j), (5, .int z)]) hx hb dX4_copy_30 hl (by decide) rfl (fun ls hl => ?_)
  refine lv_aload hx hb dX4_copy_32 (lv_at hl 1 rfl) ?_
  refine va_get (D := (dC, dI)) (ci := 1) (v := .int (bi th)) (C := RX1) (T := TX1) (N := 4) hx hb hts hiX1 hown hK hP 2 rfl rfl 0 (by decide) (hts (.fieldLink RX4 231 "RestRegisters$Sheet" "isThere" "Z") (by decide +kernel)) (fun _ h9 => h9) rfl dX4_copy_34 ?_
  refine rb_if_eq (tgt := 48) hx hb dX4_copy_37 (by decide) (fun c37 => ?_) (fun c37 => ?_)
  · skip
    first | exact absurd (c37.symm.trans hth) (by decide) | exact absurd (c45.symm.trans htg) (by decide)
  refine lv_aload hx hb dX4_copy_40 (lv_at hl 0 rfl) ?_
  refine va_get (D := (dC, dI)) (ci := 1) (v := .int (bi tg)) (C := RX1) (T := TX1) (N := 4) hx hb hts hiX1 hown hK hP 4 rfl rfl 0 (by decide) (hts (.fieldLink RX4 231 "RestRegisters$Sheet" "isThere" "Z") (by decide +kernel)) (fun _ h9 => h9) rfl dX4_copy_42 ?_
  refine rb_if_ne (tgt := 51) hx hb dX4_copy_45 (by decide) (fun c45 => ?_) (fun c45 => ?_)
  · skip
    refine lv_aload hx hb dX4_copy_51 (lv_at hl 1 rfl) ?_
    refine va_get (D := (dC, dI)) (ci := 1) (v := .int (nI ln)) (C := RX1) (T := TX1) (N := 4) hx hb hts hiX1 hown hK hP 2 rfl rfl 1 (by decide) (hts (.fieldLink RX4 239 "RestRegisters$Sheet" "lane" "I") (by decide +kernel)) (fun _ h9 => h9) rfl dX4_copy_53 ?_
    refine lv_aload hx hb dX4_copy_56 (lv_at hl 0 rfl) ?_
    refine va_get (D := (dC, dI)) (ci := 1) (v := .int (nI lg)) (C := RX1) (T := TX1) (N := 4) hx hb hts hiX1 hown hK hP 4 rfl rfl 1 (by decide) (hts (.fieldLink RX4 239 "RestRegisters$Sheet" "lane" "I") (by decide +kernel)) (fun _ h9 => h9) rfl dX4_copy_58 ?_
    refine rn_icmp_eq (tgt := 67) hx hb dX4_copy_61 (by decide) (by omega) (by omega) (fun c61 => ?_) (fun c61 => ?_)
    · skip
      exact absurd c61 hln
    refine lv_bipush (v := (-12)) hx hb dX4_copy_64 (by decide) ?_
    exact rr_iret hx hb hr hlocks dX4_copy_66 (rfl)
  first | exact absurd (c37.symm.trans hth) (by decide) | exact absurd (c45.symm.trans htg) (by decide)
set_option maxHeartbeats 4000000 in
set_option maxRecDepth 100000 in
theorem c_X4_copy_n (l : Launch) (dC : Nat → ClassId) (dI : Nat → Nat → Nat) (cI cJ cS : ClassId) (x0 t0 b0 k0 sa : Nat) (im : Bool) (sd sq : Nat → Nat) (sh : Nat) (th : Bool) (ln len : Nat) (row : Nat → Int64) (sg : Nat) (tg : Bool) (lg leg : Nat) (rog : Nat → Int64) (i j z : Int32) (hs4 : sh < 4) (hlen : len ≤ 24) (hg4 : sg < 4) (hleg : leg ≤ 24) (hbad : (th && tg) = false) : Met l yX4_copy wsX4_copy ({ frames := 2, cells := 0, slots := 0, locals := 60 }) (va_Pc [.ref x0, .int (nI sh), .int i, .int (nI sg), .int j, .int z] (rB (dC, dI) vwCl [(x0, .inr (4, [.ref t0, .ref b0, .ref k0, .int (bi im), .ref sa])), (sa, .inl (cS, 4, .inr (.inr (.inr (.inr (saF sd)))))), (sd sh, .inr (1, [.int (bi th), .int (nI ln), .int (nI len), .ref (sq sh)])), (sq sh, .inl (cJ, 24, .inr (.inl row))), (sd sg, .inr (1, [.int (bi tg), .int (nI lg), .int (nI leg), .ref (sq sg)])), (sq sg, .inl (cJ, 24, .inr (.inl rog)))] (tyz cI cJ cS))) (QcRead (-11)) 0 0 (fun _ => False) := by
  refine Met.ofW (cc := cX4_copy) (maxL := 8) (ret := (some .int)) (by decide) rfl ?_
  intro p e s m args below meth c s₁ B hml hv
  obtain ⟨rfl, hP, hKK⟩ := hv
  have hK := hKK.1
  have hx := B.exec
  have hb := B.bytes
  have hr := B.returns
  have hts := atoms_spec (ws := wsX4_copy) B.pre
  have hown : s.vm.findClass RX4 = some m.cls := findClass_of_methodNamed B.named
  have hlocks := B.notSynchronized
  have hiX1 : ∀ w ∈ wsX10, w ∈ wsX4_copy := by decide +kernel
  have hiX4 : ∀ w ∈ wsX40, w ∈ wsX4_copy := by decide +kernel
  have hl := lv_entry ([.ref x0, .int (nI sh), .int i, .int (nI sg), .int j, .int z]) (n := 8) (Nat.le_of_ble_eq_true rfl)
  rw [lg_entry_eq]
  generalize (lg_sl ([.ref x0, .int (nI sh), .int i, .int (nI sg), .int j, .int z]) ++ List.replicate (8 - (lg_sl ([.ref x0, .int (nI sh), .int i, .int (nI sg), .int j, .int z])).length) Slot.unset).toArray = ls at hl ⊢
  have hl : lv_has ls 8 [(0, .ref x0), (1, .int (nI sh)), (2, .int i), (3, .int (nI sg)), (4, .int j), (5, .int z)] := hl
  refine lv_iload_n hx hb dX4_copy_0 rfl (lv_at hl 1 rfl) ?_
  refine rr_callR (va_runS (As := [.int (nI sh)]) (rest := []) ⟨hx, hb, hml, hown, hts⟩ (c_X4_isSheet l (nI sh) ) (va_cwS 1 hts gX4_copy_X4_isSheet rfl rfl rfl (by decide +kernel) ⟨Nat.le_of_ble_eq_true rfl, Nat.le_of_ble_eq_true rfl⟩) rr_preT rfl rfl hl.1 rfl (lv_room (Nat.le_of_ble_eq_true rfl)) dX4_copy_1 ⟨Nat.zero_le _, Nat.zero_le _⟩) ?_
  refine rr_top (y := bi true) (congrArg bi (inb_lt (by omega) (by omega))) ?_
  refine rb_if_eq (tgt := 14) hx hb dX4_copy_4 (by decide) (fun c4 => ?_) (fun c4 => ?_)
  · exact absurd c4 (by decide)
  refine lv_iload_n hx hb dX4_copy_7 rfl (lv_at hl 3 rfl) ?_
  refine rr_callR (va_runS (As := [.int (nI sg)]) (rest := []) ⟨hx, hb, hml, hown, hts⟩ (c_X4_isSheet l (nI sg) ) (va_cwS 1 hts gX4_copy_X4_isSheet rfl rfl rfl (by decide +kernel) ⟨Nat.le_of_ble_eq_true rfl, Nat.le_of_ble_eq_true rfl⟩) rr_preT rfl rfl hl.1 rfl (lv_room (Nat.le_of_ble_eq_true rfl)) dX4_copy_8 ⟨Nat.zero_le _, Nat.zero_le _⟩) ?_
  refine rr_top (y := bi true) (congrArg bi (inb_lt (by omega) (by omega))) ?_
  refine rb_if_ne (tgt := 16) hx hb dX4_copy_11 (by decide) (fun c11 => ?_) (fun c11 => ?_)
  rotate_left
  · exact absurd c11 (by decide)
  refine lv_aload_n hx hb dX4_copy_16 rfl (lv_at hl 0 rfl) ?_
  refine va_get (D := (dC, dI)) (ci := 4) (v := .ref sa) (C := RX4) (T := TX4) (N := 5) hx hb hts hiX4 hown hK hP 0 rfl rfl 4 (by decide) (hts (.fieldLink RX4 28 "RestRegisters" "sheets" "[LRestRegisters$Sheet;") (by decide +kernel)) (fun _ h9 => h9) rfl dX4_copy_17 ?_
  refine lv_iload_n hx hb dX4_copy_20 rfl (lv_at hl 1 rfl) ?_
  refine rn_aald hx hb hK hP 1 2 rfl rfl (i := sh) (by omega) (by decide) (v := sd sh) rfl dX4_copy_21 ?_
  refine lv_astore (lv' := [(6, .ref (sd sh)), (0, .ref x0), (1, .int (nI sh)), (2, .int i), (3, .int (nI sg)), (4, .int j), (5, .int z)]) hx hb dX4_copy_22 hl (by decide) rfl (fun ls hl => ?_)
  refine lv_aload_n hx hb dX4_copy_24 rfl (lv_at hl 1 rfl) ?_
  refine va_get (D := (dC, dI)) (ci := 4) (v := .ref sa) (C := RX4) (T := TX4) (N := 5) hx hb hts hiX4 hown hK hP 0 rfl rfl 4 (by decide) (hts (.fieldLink RX4 28 "RestRegisters" "sheets" "[LRestRegisters$Sheet;") (by decide +kernel)) (fun _ h9 => h9) rfl dX4_copy_25 ?_
  refine lv_iload_n hx hb dX4_copy_28 rfl (lv_at hl 4 rfl) ?_
  refine rn_aald hx hb hK hP 1 2 rfl rfl (i := sg) (by omega) (by decide) (v := sd sg) rfl dX4_copy_29 ?_
  refine lv_astore (lv' := [(7, .ref (sd sg)), (6, .ref (sd sh)), (0, .ref x0), (1, .int (nI sh)), (2, .int i), (3, .int (nI sg)), (4, .int j), (5, .int z)]) hx hb dX4_copy_30 hl (by decide) rfl (fun ls hl => ?_)
  refine lv_aload hx hb dX4_copy_32 (lv_at hl 1 rfl) ?_
  refine va_get (D := (dC, dI)) (ci := 1) (v := .int (bi th)) (C := RX1) (T := TX1) (N := 4) hx hb hts hiX1 hown hK hP 2 rfl rfl 0 (by decide) (hts (.fieldLink RX4 231 "RestRegisters$Sheet" "isThere" "Z") (by decide +kernel)) (fun _ h9 => h9) rfl dX4_copy_34 ?_
  refine rb_if_eq (tgt := 48) hx hb dX4_copy_37 (by decide) (fun c37 => ?_) (fun c37 => ?_)
  · skip
    refine lv_bipush (v := (-11)) hx hb dX4_copy_48 (by decide) ?_
    exact rr_iret hx hb hr hlocks dX4_copy_50 (rfl)
  refine lv_aload hx hb dX4_copy_40 (lv_at hl 0 rfl) ?_
  refine va_get (D := (dC, dI)) (ci := 1) (v := .int (bi tg)) (C := RX1) (T := TX1) (N := 4) hx hb hts hiX1 hown hK hP 4 rfl rfl 0 (by decide) (hts (.fieldLink RX4 231 "RestRegisters$Sheet" "isThere" "Z") (by decide +kernel)) (fun _ h9 => h9) rfl dX4_copy_42 ?_
  refine rb_if_ne (tgt := 51) hx hb dX4_copy_45 (by decide) (fun c45 => ?_) (fun c45 => ?_)
  · skip
    exact absurd hbad (by rw [c37, c45]; decide)
  refine lv_bipush (v := (-11)) hx hb dX4_copy_48 (by decide) ?_
  exact rr_iret hx hb hr hlocks dX4_copy_50 (rfl)
set_option maxHeartbeats 4000000 in
set_option maxRecDepth 100000 in
theorem c_X4_copy_i (l : Launch) (dC : Nat → ClassId) (dI : Nat → Nat → Nat) (cI cJ cS : ClassId) (x0 t0 b0 k0 sa : Nat) (im : Bool) (sd sq : Nat → Nat) (sh : Nat) (th : Bool) (ln len : Nat) (row : Nat → Int64) (sg : Nat) (tg : Bool) (lg leg : Nat) (rog : Nat → Int64) (i j z : Int32) (hs4 : sh < 4) (hlen : len ≤ 24) (hg4 : sg < 4) (hleg : leg ≤ 24) (hth : th = true) (htg : tg = true) (hln : ln = lg) (hl3 : ln ≤ 3) (hg3 : lg ≤ 3) (hbad : (hasS len i z && hasS leg j z) = false) : Met l yX4_copy wsX4_copy ({ frames := 2, cells := 0, slots := 0, locals := 60 }) (va_Pc [.ref x0, .int (nI sh), .int i, .int (nI sg), .int j, .int z] (rB (dC, dI) vwCl [(x0, .inr (4, [.ref t0, .ref b0, .ref k0, .int (bi im), .ref sa])), (sa, .inl (cS, 4, .inr (.inr (.inr (.inr (saF sd)))))), (sd sh, .inr (1, [.int (bi th), .int (nI ln), .int (nI len), .ref (sq sh)])), (sq sh, .inl (cJ, 24, .inr (.inl row))), (sd sg, .inr (1, [.int (bi tg), .int (nI lg), .int (nI leg), .ref (sq sg)])), (sq sg, .inl (cJ, 24, .inr (.inl rog)))] (tyz cI cJ cS))) (QcRead (-13)) 0 0 (fun _ => False) := by
  refine Met.ofW (cc := cX4_copy) (maxL := 8) (ret := (some .int)) (by decide) rfl ?_
  intro p e s m args below meth c s₁ B hml hv
  obtain ⟨rfl, hP, hKK⟩ := hv
  have hK := hKK.1
  have hx := B.exec
  have hb := B.bytes
  have hr := B.returns
  have hts := atoms_spec (ws := wsX4_copy) B.pre
  have hown : s.vm.findClass RX4 = some m.cls := findClass_of_methodNamed B.named
  have hlocks := B.notSynchronized
  have hiX1 : ∀ w ∈ wsX10, w ∈ wsX4_copy := by decide +kernel
  have hiX4 : ∀ w ∈ wsX40, w ∈ wsX4_copy := by decide +kernel
  have hl := lv_entry ([.ref x0, .int (nI sh), .int i, .int (nI sg), .int j, .int z]) (n := 8) (Nat.le_of_ble_eq_true rfl)
  rw [lg_entry_eq]
  generalize (lg_sl ([.ref x0, .int (nI sh), .int i, .int (nI sg), .int j, .int z]) ++ List.replicate (8 - (lg_sl ([.ref x0, .int (nI sh), .int i, .int (nI sg), .int j, .int z])).length) Slot.unset).toArray = ls at hl ⊢
  have hl : lv_has ls 8 [(0, .ref x0), (1, .int (nI sh)), (2, .int i), (3, .int (nI sg)), (4, .int j), (5, .int z)] := hl
  refine lv_iload_n hx hb dX4_copy_0 rfl (lv_at hl 1 rfl) ?_
  refine rr_callR (va_runS (As := [.int (nI sh)]) (rest := []) ⟨hx, hb, hml, hown, hts⟩ (c_X4_isSheet l (nI sh) ) (va_cwS 1 hts gX4_copy_X4_isSheet rfl rfl rfl (by decide +kernel) ⟨Nat.le_of_ble_eq_true rfl, Nat.le_of_ble_eq_true rfl⟩) rr_preT rfl rfl hl.1 rfl (lv_room (Nat.le_of_ble_eq_true rfl)) dX4_copy_1 ⟨Nat.zero_le _, Nat.zero_le _⟩) ?_
  refine rr_top (y := bi true) (congrArg bi (inb_lt (by omega) (by omega))) ?_
  refine rb_if_eq (tgt := 14) hx hb dX4_copy_4 (by decide) (fun c4 => ?_) (fun c4 => ?_)
  · exact absurd c4 (by decide)
  refine lv_iload_n hx hb dX4_copy_7 rfl (lv_at hl 3 rfl) ?_
  refine rr_callR (va_runS (As := [.int (nI sg)]) (rest := []) ⟨hx, hb, hml, hown, hts⟩ (c_X4_isSheet l (nI sg) ) (va_cwS 1 hts gX4_copy_X4_isSheet rfl rfl rfl (by decide +kernel) ⟨Nat.le_of_ble_eq_true rfl, Nat.le_of_ble_eq_true rfl⟩) rr_preT rfl rfl hl.1 rfl (lv_room (Nat.le_of_ble_eq_true rfl)) dX4_copy_8 ⟨Nat.zero_le _, Nat.zero_le _⟩) ?_
  refine rr_top (y := bi true) (congrArg bi (inb_lt (by omega) (by omega))) ?_
  refine rb_if_ne (tgt := 16) hx hb dX4_copy_11 (by decide) (fun c11 => ?_) (fun c11 => ?_)
  rotate_left
  · exact absurd c11 (by decide)
  refine lv_aload_n hx hb dX4_copy_16 rfl (lv_at hl 0 rfl) ?_
  refine va_get (D := (dC, dI)) (ci := 4) (v := .ref sa) (C := RX4) (T := TX4) (N := 5) hx hb hts hiX4 hown hK hP 0 rfl rfl 4 (by decide) (hts (.fieldLink RX4 28 "RestRegisters" "sheets" "[LRestRegisters$Sheet;") (by decide +kernel)) (fun _ h9 => h9) rfl dX4_copy_17 ?_
  refine lv_iload_n hx hb dX4_copy_20 rfl (lv_at hl 1 rfl) ?_
  refine rn_aald hx hb hK hP 1 2 rfl rfl (i := sh) (by omega) (by decide) (v := sd sh) rfl dX4_copy_21 ?_
  refine lv_astore (lv' := [(6, .ref (sd sh)), (0, .ref x0), (1, .int (nI sh)), (2, .int i), (3, .int (nI sg)), (4, .int j), (5, .int z)]) hx hb dX4_copy_22 hl (by decide) rfl (fun ls hl => ?_)
  refine lv_aload_n hx hb dX4_copy_24 rfl (lv_at hl 1 rfl) ?_
  refine va_get (D := (dC, dI)) (ci := 4) (v := .ref sa) (C := RX4) (T := TX4) (N := 5) hx hb hts hiX4 hown hK hP 0 rfl rfl 4 (by decide) (hts (.fieldLink RX4 28 "RestRegisters" "sheets" "[LRestRegisters$Sheet;") (by decide +kernel)) (fun _ h9 => h9) rfl dX4_copy_25 ?_
  refine lv_iload_n hx hb dX4_copy_28 rfl (lv_at hl 4 rfl) ?_
  refine rn_aald hx hb hK hP 1 2 rfl rfl (i := sg) (by omega) (by decide) (v := sd sg) rfl dX4_copy_29 ?_
  refine lv_astore (lv' := [(7, .ref (sd sg)), (6, .ref (sd sh)), (0, .ref x0), (1, .int (nI sh)), (2, .int i), (3, .int (nI sg)), (4, .int j), (5, .int z)]) hx hb dX4_copy_30 hl (by decide) rfl (fun ls hl => ?_)
  refine lv_aload hx hb dX4_copy_32 (lv_at hl 1 rfl) ?_
  refine va_get (D := (dC, dI)) (ci := 1) (v := .int (bi th)) (C := RX1) (T := TX1) (N := 4) hx hb hts hiX1 hown hK hP 2 rfl rfl 0 (by decide) (hts (.fieldLink RX4 231 "RestRegisters$Sheet" "isThere" "Z") (by decide +kernel)) (fun _ h9 => h9) rfl dX4_copy_34 ?_
  refine rb_if_eq (tgt := 48) hx hb dX4_copy_37 (by decide) (fun c37 => ?_) (fun c37 => ?_)
  · skip
    first | exact absurd (c37.symm.trans hth) (by decide) | exact absurd (c45.symm.trans htg) (by decide)
  refine lv_aload hx hb dX4_copy_40 (lv_at hl 0 rfl) ?_
  refine va_get (D := (dC, dI)) (ci := 1) (v := .int (bi tg)) (C := RX1) (T := TX1) (N := 4) hx hb hts hiX1 hown hK hP 4 rfl rfl 0 (by decide) (hts (.fieldLink RX4 231 "RestRegisters$Sheet" "isThere" "Z") (by decide +kernel)) (fun _ h9 => h9) rfl dX4_copy_42 ?_
  refine rb_if_ne (tgt := 51) hx hb dX4_copy_45 (by decide) (fun c45 => ?_) (fun c45 => ?_)
  · skip
    refine lv_aload hx hb dX4_copy_51 (lv_at hl 1 rfl) ?_
    refine va_get (D := (dC, dI)) (ci := 1) (v := .int (nI ln)) (C := RX1) (T := TX1) (N := 4) hx hb hts hiX1 hown hK hP 2 rfl rfl 1 (by decide) (hts (.fieldLink RX4 239 "RestRegisters$Sheet" "lane" "I") (by decide +kernel)) (fun _ h9 => h9) rfl dX4_copy_53 ?_
    refine lv_aload hx hb dX4_copy_56 (lv_at hl 0 rfl) ?_
    refine va_get (D := (dC, dI)) (ci := 1) (v := .int (nI lg)) (C := RX1) (T := TX1) (N := 4) hx hb hts hiX1 hown hK hP 4 rfl rfl 1 (by decide) (hts (.fieldLink RX4 239 "RestRegisters$Sheet" "lane" "I") (by decide +kernel)) (fun _ h9 => h9) rfl dX4_copy_58 ?_
    refine rn_icmp_eq (tgt := 67) hx hb dX4_copy_61 (by decide) (by omega) (by omega) (fun c61 => ?_) (fun c61 => ?_)
    · skip
      refine lv_aload hx hb dX4_copy_67 (lv_at hl 1 rfl) ?_
      refine lv_iload_n hx hb dX4_copy_69 rfl (lv_at hl 4 rfl) ?_
      refine lv_iload hx hb dX4_copy_70 (lv_at hl 7 rfl) ?_
      refine rr_callR (va_runV (As := [.int i, .int z]) (rest := []) ⟨hx, hb, hml, hown, hts⟩ (c_X1_has l dC dI cI cJ cS (sd sh) (sq sh) th ln len row i z (by first | assumption | omega)) (cwV 2 hts gX4_copy_X1_has rfl rfl rfl (by decide +kernel) ⟨Nat.le_of_ble_eq_true rfl, Nat.le_of_ble_eq_true rfl⟩) (rr_preV hKK (hP.sub [2, 3] rfl) rfl rfl) rfl rfl hl.1 rfl (lv_room (Nat.le_of_ble_eq_true rfl)) dX4_copy_72 ⟨Nat.zero_le _, Nat.zero_le _⟩) ?_
      refine rb_if_eq (tgt := 90) hx hb dX4_copy_75 (by decide) (fun c75 => ?_) (fun c75 => ?_)
      · skip
        refine lv_bipush (v := (-13)) hx hb dX4_copy_90 (by decide) ?_
        exact rr_iret hx hb hr hlocks dX4_copy_92 (rfl)
      refine lv_aload hx hb dX4_copy_78 (lv_at hl 0 rfl) ?_
      refine lv_iload hx hb dX4_copy_80 (lv_at hl 6 rfl) ?_
      refine lv_iload hx hb dX4_copy_82 (lv_at hl 7 rfl) ?_
      refine rr_callR (va_runV (As := [.int j, .int z]) (rest := []) ⟨hx, hb, hml, hown, hts⟩ (c_X1_has l dC dI cI cJ cS (sd sg) (sq sg) tg lg leg rog j z (by first | assumption | omega)) (cwV 2 hts gX4_copy_X1_has rfl rfl rfl (by decide +kernel) ⟨Nat.le_of_ble_eq_true rfl, Nat.le_of_ble_eq_true rfl⟩) (rr_preV hKK (hP.sub [4, 5] rfl) rfl rfl) rfl rfl hl.1 rfl (lv_room (Nat.le_of_ble_eq_true rfl)) dX4_copy_84 ⟨Nat.zero_le _, Nat.zero_le _⟩) ?_
      refine rb_if_ne (tgt := 93) hx hb dX4_copy_87 (by decide) (fun c87 => ?_) (fun c87 => ?_)
      · skip
        exact absurd hbad (by rw [c75, c87]; decide)
      refine lv_bipush (v := (-13)) hx hb dX4_copy_90 (by decide) ?_
      exact rr_iret hx hb hr hlocks dX4_copy_92 (rfl)
    exact absurd hln c61
  first | exact absurd (c37.symm.trans hth) (by decide) | exact absurd (c45.symm.trans htg) (by decide)
set_option maxHeartbeats 4000000 in
set_option maxRecDepth 100000 in
theorem c_X4_copy_g (l : Launch) (dC : Nat → ClassId) (dI : Nat → Nat → Nat) (cI cJ cS : ClassId) (sz : Nat) (x0 t0 b0 k0 sa : Nat) (im : Bool) (sd sq : Nat → Nat) (sh : Nat) (th : Bool) (ln len : Nat) (row : Nat → Int64) (sg : Nat) (tg : Bool) (lg leg : Nat) (rog : Nat → Int64) (a b t : Nat) (hs4 : sh < 4) (hlen : len ≤ 24) (hg4 : sg < 4) (hleg : leg ≤ 24) (hth : th = true) (htg : tg = true) (hln : ln = lg) (hl3 : ln ≤ 3) (hg3 : lg ≤ 3) (has : a + t ≤ len) (hbs : b + t ≤ leg) : Met l yX4_copy wsX4_copy ({ frames := 2, cells := 0, slots := 0, locals := 60 }) (va_Pc [.ref x0, .int (nI sh), .int (nI a), .int (nI sg), .int (nI b), .int (nI t)] (rW (dC, dI) vwCl [(x0, .inr (4, [.ref t0, .ref b0, .ref k0, .int (bi im), .ref sa])), (sa, .inl (cS, 4, .inr (.inr (.inr (.inr (saF sd)))))), (sd sh, .inr (1, [.int (bi th), .int (nI ln), .int (nI len), .ref (sq sh)])), (sq sh, .inl (cJ, 24, .inr (.inl row))), (sd sg, .inr (1, [.int (bi tg), .int (nI lg), .int (nI leg), .ref (sq sg)])), (sq sg, .inl (cJ, 24, .inr (.inl rog)))] (tyz cI cJ cS) sz)) (qI (nI t) (dC, dI) vwCl [(x0, .inr (4, [.ref t0, .ref b0, .ref k0, .int (bi im), .ref sa])), (sa, .inl (cS, 4, .inr (.inr (.inr (.inr (saF sd)))))), (sd sh, .inr (1, [.int (bi th), .int (nI ln), .int (nI len), .ref (sq sh)])), (sq sh, .inl (cJ, 24, .inr (.inl row))), (sd sg, .inr (1, [.int (bi tg), .int (nI lg), .int (nI leg), .ref (sq sg)])), (sq sg, .inl (cJ, 24, .inr (.inl (va_cpy row rog a b t))))] (va_A [(x0, .inr (4, [.ref t0, .ref b0, .ref k0, .int (bi im), .ref sa])), (sa, .inl (cS, 4, .inr (.inr (.inr (.inr (saF sd)))))), (sd sh, .inr (1, [.int (bi th), .int (nI ln), .int (nI len), .ref (sq sh)])), (sq sh, .inl (cJ, 24, .inr (.inl row))), (sd sg, .inr (1, [.int (bi tg), .int (nI lg), .int (nI leg), .ref (sq sg)])), (sq sg, .inl (cJ, 24, .inr (.inl rog)))] sz)) 0 0 (va_A [(x0, .inr (4, [.ref t0, .ref b0, .ref k0, .int (bi im), .ref sa])), (sa, .inl (cS, 4, .inr (.inr (.inr (.inr (saF sd)))))), (sd sh, .inr (1, [.int (bi th), .int (nI ln), .int (nI len), .ref (sq sh)])), (sq sh, .inl (cJ, 24, .inr (.inl row))), (sd sg, .inr (1, [.int (bi tg), .int (nI lg), .int (nI leg), .ref (sq sg)])), (sq sg, .inl (cJ, 24, .inr (.inl rog)))] sz) := by
  refine Met.ofW (cc := cX4_copy) (maxL := 8) (ret := (some .int)) (by decide) rfl ?_
  intro p e s m args below meth c s₁ B hml hv
  obtain ⟨rfl, hsz, hP, hKK, hD0⟩ := hv
  have hK := hKK.1
  have hx := B.exec
  have hb := B.bytes
  have hr := B.returns
  have hts := atoms_spec (ws := wsX4_copy) B.pre
  have hown : s.vm.findClass RX4 = some m.cls := findClass_of_methodNamed B.named
  have hlocks := B.notSynchronized
  subst hsz
  have hD := hD0.self (sz := s.heap.size)
  generalize hAe : va_A [(x0, .inr (4, [.ref t0, .ref b0, .ref k0, .int (bi im), .ref sa])), (sa, .inl (cS, 4, .inr (.inr (.inr (.inr (saF sd)))))), (sd sh, .inr (1, [.int (bi th), .int (nI ln), .int (nI len), .ref (sq sh)])), (sq sh, .inl (cJ, 24, .inr (.inl row))), (sd sg, .inr (1, [.int (bi tg), .int (nI lg), .int (nI leg), .ref (sq sg)])), (sq sg, .inl (cJ, 24, .inr (.inl rog)))] s.heap.size = A at hD ⊢
  have hA : ∀ q : Nat, s.heap.size ≤ q → A q := fun q h => by rw [← hAe]; exact Or.inr h
  have hS : va_S A s.heap s.heap [] := va_S.rf
  have hP : va_P (dC, dI) vwCl [(x0, .inr (4, [.ref t0, .ref b0, .ref k0, .int (bi im), .ref sa])), (sa, .inl (cS, 4, .inr (.inr (.inr (.inr (saF sd)))))), (sd sh, .inr (1, [.int (bi th), .int (nI ln), .int (nI len), .ref (sq sh)])), (sq sh, .inl (cJ, 24, .inr (.inl row))), (sd sg, .inr (1, [.int (bi tg), .int (nI lg), .int (nI leg), .ref (sq sg)])), (sq sg, .inl (cJ, 24, .inr (.inl rog)))] s.heap := hP
  have hiX1 : ∀ w ∈ wsX10, w ∈ wsX4_copy := by decide +kernel
  have hiX4 : ∀ w ∈ wsX40, w ∈ wsX4_copy := by decide +kernel
  have hl := lv_entry ([.ref x0, .int (nI sh), .int (nI a), .int (nI sg), .int (nI b), .int (nI t)]) (n := 8) (Nat.le_of_ble_eq_true rfl)
  rw [lg_entry_eq]
  generalize (lg_sl ([.ref x0, .int (nI sh), .int (nI a), .int (nI sg), .int (nI b), .int (nI t)]) ++ List.replicate (8 - (lg_sl ([.ref x0, .int (nI sh), .int (nI a), .int (nI sg), .int (nI b), .int (nI t)])).length) Slot.unset).toArray = ls at hl ⊢
  have hl : lv_has ls 8 [(0, .ref x0), (1, .int (nI sh)), (2, .int (nI a)), (3, .int (nI sg)), (4, .int (nI b)), (5, .int (nI t))] := hl
  refine lv_iload_n hx hb dX4_copy_0 rfl (lv_at hl 1 rfl) ?_
  refine rr_callR (va_runS (As := [.int (nI sh)]) (rest := []) ⟨hx, hb, hml, hown, hts⟩ (c_X4_isSheet l (nI sh) ) (va_cwS 1 hts gX4_copy_X4_isSheet rfl rfl rfl (by decide +kernel) ⟨Nat.le_of_ble_eq_true rfl, Nat.le_of_ble_eq_true rfl⟩) rr_preT rfl rfl hl.1 rfl (lv_room (Nat.le_of_ble_eq_true rfl)) dX4_copy_1 ⟨Nat.zero_le _, Nat.zero_le _⟩) ?_
  refine rr_top (y := bi true) (congrArg bi (inb_lt (by omega) (by omega))) ?_
  refine rb_if_eq (tgt := 14) hx hb dX4_copy_4 (by decide) (fun c4 => ?_) (fun c4 => ?_)
  · exact absurd c4 (by decide)
  refine lv_iload_n hx hb dX4_copy_7 rfl (lv_at hl 3 rfl) ?_
  refine rr_callR (va_runS (As := [.int (nI sg)]) (rest := []) ⟨hx, hb, hml, hown, hts⟩ (c_X4_isSheet l (nI sg) ) (va_cwS 1 hts gX4_copy_X4_isSheet rfl rfl rfl (by decide +kernel) ⟨Nat.le_of_ble_eq_true rfl, Nat.le_of_ble_eq_true rfl⟩) rr_preT rfl rfl hl.1 rfl (lv_room (Nat.le_of_ble_eq_true rfl)) dX4_copy_8 ⟨Nat.zero_le _, Nat.zero_le _⟩) ?_
  refine rr_top (y := bi true) (congrArg bi (inb_lt (by omega) (by omega))) ?_
  refine rb_if_ne (tgt := 16) hx hb dX4_copy_11 (by decide) (fun c11 => ?_) (fun c11 => ?_)
  rotate_left
  · exact absurd c11 (by decide)
  refine lv_aload_n hx hb dX4_copy_16 rfl (lv_at hl 0 rfl) ?_
  refine va_get (D := (dC, dI)) (ci := 4) (v := .ref sa) (C := RX4) (T := TX4) (N := 5) hx hb hts hiX4 hown hK hP 0 rfl rfl 4 (by decide) (hts (.fieldLink RX4 28 "RestRegisters" "sheets" "[LRestRegisters$Sheet;") (by decide +kernel)) (fun _ h9 => h9) rfl dX4_copy_17 ?_
  refine lv_iload_n hx hb dX4_copy_20 rfl (lv_at hl 1 rfl) ?_
  refine rn_aald hx hb hK hP 1 2 rfl rfl (i := sh) (by omega) (by decide) (v := sd sh) rfl dX4_copy_21 ?_
  refine lv_astore (lv' := [(6, .ref (sd sh)), (0, .ref x0), (1, .int (nI sh)), (2, .int (nI a)), (3, .int (nI sg)), (4, .int (nI b)), (5, .int (nI t))]) hx hb dX4_copy_22 hl (by decide) rfl (fun ls hl => ?_)
  refine lv_aload_n hx hb dX4_copy_24 rfl (lv_at hl 1 rfl) ?_
  refine va_get (D := (dC, dI)) (ci := 4) (v := .ref sa) (C := RX4) (T := TX4) (N := 5) hx hb hts hiX4 hown hK hP 0 rfl rfl 4 (by decide) (hts (.fieldLink RX4 28 "RestRegisters" "sheets" "[LRestRegisters$Sheet;") (by decide +kernel)) (fun _ h9 => h9) rfl dX4_copy_25 ?_
  refine lv_iload_n hx hb dX4_copy_28 rfl (lv_at hl 4 rfl) ?_
  refine rn_aald hx hb hK hP 1 2 rfl rfl (i := sg) (by omega) (by decide) (v := sd sg) rfl dX4_copy_29 ?_
  refine lv_astore (lv' := [(7, .ref (sd sg)), (6, .ref (sd sh)), (0, .ref x0), (1, .int (nI sh)), (2, .int (nI a)), (3, .int (nI sg)), (4, .int (nI b)), (5, .int (nI t))]) hx hb dX4_copy_30 hl (by decide) rfl (fun ls hl => ?_)
  refine lv_aload hx hb dX4_copy_32 (lv_at hl 1 rfl) ?_
  refine va_get (D := (dC, dI)) (ci := 1) (v := .int (bi th)) (C := RX1) (T := TX1) (N := 4) hx hb hts hiX1 hown hK hP 2 rfl rfl 0 (by decide) (hts (.fieldLink RX4 231 "RestRegisters$Sheet" "isThere" "Z") (by decide +kernel)) (fun _ h9 => h9) rfl dX4_copy_34 ?_
  refine rb_if_eq (tgt := 48) hx hb dX4_copy_37 (by decide) (fun c37 => ?_) (fun c37 => ?_)
  · skip
    first | exact absurd (c37.symm.trans hth) (by decide) | exact absurd (c45.symm.trans htg) (by decide)
  refine lv_aload hx hb dX4_copy_40 (lv_at hl 0 rfl) ?_
  refine va_get (D := (dC, dI)) (ci := 1) (v := .int (bi tg)) (C := RX1) (T := TX1) (N := 4) hx hb hts hiX1 hown hK hP 4 rfl rfl 0 (by decide) (hts (.fieldLink RX4 231 "RestRegisters$Sheet" "isThere" "Z") (by decide +kernel)) (fun _ h9 => h9) rfl dX4_copy_42 ?_
  refine rb_if_ne (tgt := 51) hx hb dX4_copy_45 (by decide) (fun c45 => ?_) (fun c45 => ?_)
  · skip
    refine lv_aload hx hb dX4_copy_51 (lv_at hl 1 rfl) ?_
    refine va_get (D := (dC, dI)) (ci := 1) (v := .int (nI ln)) (C := RX1) (T := TX1) (N := 4) hx hb hts hiX1 hown hK hP 2 rfl rfl 1 (by decide) (hts (.fieldLink RX4 239 "RestRegisters$Sheet" "lane" "I") (by decide +kernel)) (fun _ h9 => h9) rfl dX4_copy_53 ?_
    refine lv_aload hx hb dX4_copy_56 (lv_at hl 0 rfl) ?_
    refine va_get (D := (dC, dI)) (ci := 1) (v := .int (nI lg)) (C := RX1) (T := TX1) (N := 4) hx hb hts hiX1 hown hK hP 4 rfl rfl 1 (by decide) (hts (.fieldLink RX4 239 "RestRegisters$Sheet" "lane" "I") (by decide +kernel)) (fun _ h9 => h9) rfl dX4_copy_58 ?_
    refine rn_icmp_eq (tgt := 67) hx hb dX4_copy_61 (by decide) (by omega) (by omega) (fun c61 => ?_) (fun c61 => ?_)
    · skip
      refine lv_aload hx hb dX4_copy_67 (lv_at hl 1 rfl) ?_
      refine lv_iload_n hx hb dX4_copy_69 rfl (lv_at hl 4 rfl) ?_
      refine lv_iload hx hb dX4_copy_70 (lv_at hl 7 rfl) ?_
      refine rr_callR (va_runV (As := [.int (nI a), .int (nI t)]) (rest := []) ⟨hx, hb, hml, hown, hts⟩ (c_X1_has l dC dI cI cJ cS (sd sh) (sq sh) th ln len row (nI a) (nI t) (by first | assumption | omega)) (cwV 2 hts gX4_copy_X1_has rfl rfl rfl (by decide +kernel) ⟨Nat.le_of_ble_eq_true rfl, Nat.le_of_ble_eq_true rfl⟩) (rr_preV hKK (hP.sub [2, 3] rfl) rfl rfl) rfl rfl hl.1 rfl (lv_room (Nat.le_of_ble_eq_true rfl)) dX4_copy_72 ⟨Nat.zero_le _, Nat.zero_le _⟩) ?_
      refine rr_top (y := (bi true)) (congrArg bi (by rw [hasS_nI (by omega) (by omega), decide_eq_true has])) ?_
      refine rb_if_eq (tgt := 90) hx hb dX4_copy_75 (by decide) (fun c75 => ?_) (fun c75 => ?_)
      · exact absurd c75 (by decide)
      refine lv_aload hx hb dX4_copy_78 (lv_at hl 0 rfl) ?_
      refine lv_iload hx hb dX4_copy_80 (lv_at hl 6 rfl) ?_
      refine lv_iload hx hb dX4_copy_82 (lv_at hl 7 rfl) ?_
      refine rr_callR (va_runV (As := [.int (nI b), .int (nI t)]) (rest := []) ⟨hx, hb, hml, hown, hts⟩ (c_X1_has l dC dI cI cJ cS (sd sg) (sq sg) tg lg leg rog (nI b) (nI t) (by first | assumption | omega)) (cwV 2 hts gX4_copy_X1_has rfl rfl rfl (by decide +kernel) ⟨Nat.le_of_ble_eq_true rfl, Nat.le_of_ble_eq_true rfl⟩) (rr_preV hKK (hP.sub [4, 5] rfl) rfl rfl) rfl rfl hl.1 rfl (lv_room (Nat.le_of_ble_eq_true rfl)) dX4_copy_84 ⟨Nat.zero_le _, Nat.zero_le _⟩) ?_
      refine rr_top (y := (bi true)) (congrArg bi (by rw [hasS_nI (by omega) (by omega), decide_eq_true hbs])) ?_
      refine rb_if_ne (tgt := 93) hx hb dX4_copy_87 (by decide) (fun c87 => ?_) (fun c87 => ?_)
      rotate_left
      · exact absurd c87 (by decide)
      refine lv_aload hx hb dX4_copy_93 (lv_at hl 1 rfl) ?_
      refine va_get (D := (dC, dI)) (ci := 1) (v := .ref (sq sh)) (C := RX1) (T := TX1) (N := 4) hx hb hts hiX1 hown hK hP 2 rfl rfl 3 (by decide) (hts (.fieldLink RX4 210 "RestRegisters$Sheet" "items" "[J") (by decide +kernel)) (fun _ h9 => h9) rfl dX4_copy_95 ?_
      refine lv_iload_n hx hb dX4_copy_98 rfl (lv_at hl 4 rfl) ?_
      refine lv_aload hx hb dX4_copy_99 (lv_at hl 0 rfl) ?_
      refine va_get (D := (dC, dI)) (ci := 1) (v := .ref (sq sg)) (C := RX1) (T := TX1) (N := 4) hx hb hts hiX1 hown hK hP 4 rfl rfl 3 (by decide) (hts (.fieldLink RX4 210 "RestRegisters$Sheet" "items" "[J") (by decide +kernel)) (fun _ h9 => h9) rfl dX4_copy_101 ?_
      refine lv_iload hx hb dX4_copy_104 (lv_at hl 6 rfl) ?_
      refine lv_iload hx hb dX4_copy_106 (lv_at hl 7 rfl) ?_
      refine rn_copyl hx hb (hml.trans hl.1.symm) hown (hts (.methodLink RX4 245 arraycopyName) (by decide +kernel)) (hts (.native arraycopyName) (by decide +kernel)) (hts (.static arraycopyName) (by decide +kernel)) (hts (.initialized "java/lang/System") (by decide +kernel)) hK hP hD hS 3 5 1 1 rfl rfl rfl rfl rfl (sp := a) (dp := b) (n := t) (by omega) (by omega) (by decide) (by decide) (fun _ _ => rfl) (Nat.le_of_ble_eq_true rfl) (Nat.le_of_ble_eq_true rfl) dX4_copy_108 (fun H locs hP hD hS => ?_)
      have hP : va_P (dC, dI) vwCl [(x0, .inr (4, [.ref t0, .ref b0, .ref k0, .int (bi im), .ref sa])), (sa, .inl (cS, 4, .inr (.inr (.inr (.inr (saF sd)))))), (sd sh, .inr (1, [.int (bi th), .int (nI ln), .int (nI len), .ref (sq sh)])), (sq sh, .inl (cJ, 24, .inr (.inl row))), (sd sg, .inr (1, [.int (bi tg), .int (nI lg), .int (nI leg), .ref (sq sg)])), (sq sg, .inl (cJ, 24, .inr (.inl (va_cpy row rog a b t))))] H := hP
      have hD : va_D A [(x0, .inr (4, [.ref t0, .ref b0, .ref k0, .int (bi im), .ref sa])), (sa, .inl (cS, 4, .inr (.inr (.inr (.inr (saF sd)))))), (sd sh, .inr (1, [.int (bi th), .int (nI ln), .int (nI len), .ref (sq sh)])), (sq sh, .inl (cJ, 24, .inr (.inl row))), (sd sg, .inr (1, [.int (bi tg), .int (nI lg), .int (nI leg), .ref (sq sg)])), (sq sg, .inl (cJ, 24, .inr (.inl (va_cpy row rog a b t))))] := hD
      refine lv_iload hx hb dX4_copy_111 (lv_at hl 7 rfl) ?_
      exact rr_iretW hx hb hr hlocks dX4_copy_113 hP hD hS (rfl)
    exact absurd hln c61
  first | exact absurd (c37.symm.trans hth) (by decide) | exact absurd (c45.symm.trans htg) (by decide)
set_option maxHeartbeats 4000000 in
set_option maxRecDepth 100000 in
theorem c_X4_copy_ns (l : Launch) (dC : Nat → ClassId) (dI : Nat → Nat → Nat) (cI cJ cS : ClassId) (x0 t0 b0 k0 sa : Nat) (im : Bool) (sd sq : Nat → Nat) (sh : Nat) (th : Bool) (ln len : Nat) (row : Nat → Int64) (i j z : Int32) (hs4 : sh < 4) (hlen : len ≤ 24) (hbad : th = false) : Met l yX4_copy wsX4_copy ({ frames := 2, cells := 0, slots := 0, locals := 60 }) (va_Pc [.ref x0, .int (nI sh), .int i, .int (nI sh), .int j, .int z] (rB (dC, dI) vwCl [(x0, .inr (4, [.ref t0, .ref b0, .ref k0, .int (bi im), .ref sa])), (sa, .inl (cS, 4, .inr (.inr (.inr (.inr (saF sd)))))), (sd sh, .inr (1, [.int (bi th), .int (nI ln), .int (nI len), .ref (sq sh)])), (sq sh, .inl (cJ, 24, .inr (.inl row)))] (tyz cI cJ cS))) (QcRead (-11)) 0 0 (fun _ => False) := by
  refine Met.ofW (cc := cX4_copy) (maxL := 8) (ret := (some .int)) (by decide) rfl ?_
  intro p e s m args below meth c s₁ B hml hv
  obtain ⟨rfl, hP, hKK⟩ := hv
  have hK := hKK.1
  have hx := B.exec
  have hb := B.bytes
  have hr := B.returns
  have hts := atoms_spec (ws := wsX4_copy) B.pre
  have hown : s.vm.findClass RX4 = some m.cls := findClass_of_methodNamed B.named
  have hlocks := B.notSynchronized
  have hiX1 : ∀ w ∈ wsX10, w ∈ wsX4_copy := by decide +kernel
  have hiX4 : ∀ w ∈ wsX40, w ∈ wsX4_copy := by decide +kernel
  have hl := lv_entry ([.ref x0, .int (nI sh), .int i, .int (nI sh), .int j, .int z]) (n := 8) (Nat.le_of_ble_eq_true rfl)
  rw [lg_entry_eq]
  generalize (lg_sl ([.ref x0, .int (nI sh), .int i, .int (nI sh), .int j, .int z]) ++ List.replicate (8 - (lg_sl ([.ref x0, .int (nI sh), .int i, .int (nI sh), .int j, .int z])).length) Slot.unset).toArray = ls at hl ⊢
  have hl : lv_has ls 8 [(0, .ref x0), (1, .int (nI sh)), (2, .int i), (3, .int (nI sh)), (4, .int j), (5, .int z)] := hl
  refine lv_iload_n hx hb dX4_copy_0 rfl (lv_at hl 1 rfl) ?_
  refine rr_callR (va_runS (As := [.int (nI sh)]) (rest := []) ⟨hx, hb, hml, hown, hts⟩ (c_X4_isSheet l (nI sh) ) (va_cwS 1 hts gX4_copy_X4_isSheet rfl rfl rfl (by decide +kernel) ⟨Nat.le_of_ble_eq_true rfl, Nat.le_of_ble_eq_true rfl⟩) rr_preT rfl rfl hl.1 rfl (lv_room (Nat.le_of_ble_eq_true rfl)) dX4_copy_1 ⟨Nat.zero_le _, Nat.zero_le _⟩) ?_
  refine rr_top (y := bi true) (congrArg bi (inb_lt (by omega) (by omega))) ?_
  refine rb_if_eq (tgt := 14) hx hb dX4_copy_4 (by decide) (fun c4 => ?_) (fun c4 => ?_)
  · exact absurd c4 (by decide)
  refine lv_iload_n hx hb dX4_copy_7 rfl (lv_at hl 3 rfl) ?_
  refine rr_callR (va_runS (As := [.int (nI sh)]) (rest := []) ⟨hx, hb, hml, hown, hts⟩ (c_X4_isSheet l (nI sh) ) (va_cwS 1 hts gX4_copy_X4_isSheet rfl rfl rfl (by decide +kernel) ⟨Nat.le_of_ble_eq_true rfl, Nat.le_of_ble_eq_true rfl⟩) rr_preT rfl rfl hl.1 rfl (lv_room (Nat.le_of_ble_eq_true rfl)) dX4_copy_8 ⟨Nat.zero_le _, Nat.zero_le _⟩) ?_
  refine rr_top (y := bi true) (congrArg bi (inb_lt (by omega) (by omega))) ?_
  refine rb_if_ne (tgt := 16) hx hb dX4_copy_11 (by decide) (fun c11 => ?_) (fun c11 => ?_)
  rotate_left
  · exact absurd c11 (by decide)
  refine lv_aload_n hx hb dX4_copy_16 rfl (lv_at hl 0 rfl) ?_
  refine va_get (D := (dC, dI)) (ci := 4) (v := .ref sa) (C := RX4) (T := TX4) (N := 5) hx hb hts hiX4 hown hK hP 0 rfl rfl 4 (by decide) (hts (.fieldLink RX4 28 "RestRegisters" "sheets" "[LRestRegisters$Sheet;") (by decide +kernel)) (fun _ h9 => h9) rfl dX4_copy_17 ?_
  refine lv_iload_n hx hb dX4_copy_20 rfl (lv_at hl 1 rfl) ?_
  refine rn_aald hx hb hK hP 1 2 rfl rfl (i := sh) (by omega) (by decide) (v := sd sh) rfl dX4_copy_21 ?_
  refine lv_astore (lv' := [(6, .ref (sd sh)), (0, .ref x0), (1, .int (nI sh)), (2, .int i), (3, .int (nI sh)), (4, .int j), (5, .int z)]) hx hb dX4_copy_22 hl (by decide) rfl (fun ls hl => ?_)
  refine lv_aload_n hx hb dX4_copy_24 rfl (lv_at hl 1 rfl) ?_
  refine va_get (D := (dC, dI)) (ci := 4) (v := .ref sa) (C := RX4) (T := TX4) (N := 5) hx hb hts hiX4 hown hK hP 0 rfl rfl 4 (by decide) (hts (.fieldLink RX4 28 "RestRegisters" "sheets" "[LRestRegisters$Sheet;") (by decide +kernel)) (fun _ h9 => h9) rfl dX4_copy_25 ?_
  refine lv_iload_n hx hb dX4_copy_28 rfl (lv_at hl 4 rfl) ?_
  refine rn_aald hx hb hK hP 1 2 rfl rfl (i := sh) (by omega) (by decide) (v := sd sh) rfl dX4_copy_29 ?_
  refine lv_astore (lv' := [(7, .ref (sd sh)), (6, .ref (sd sh)), (0, .ref x0), (1, .int (nI sh)), (2, .int i), (3, .int (nI sh)), (4, .int j), (5, .int z)]) hx hb dX4_copy_30 hl (by decide) rfl (fun ls hl => ?_)
  refine lv_aload hx hb dX4_copy_32 (lv_at hl 1 rfl) ?_
  refine va_get (D := (dC, dI)) (ci := 1) (v := .int (bi th)) (C := RX1) (T := TX1) (N := 4) hx hb hts hiX1 hown hK hP 2 rfl rfl 0 (by decide) (hts (.fieldLink RX4 231 "RestRegisters$Sheet" "isThere" "Z") (by decide +kernel)) (fun _ h9 => h9) rfl dX4_copy_34 ?_
  refine rb_if_eq (tgt := 48) hx hb dX4_copy_37 (by decide) (fun c37 => ?_) (fun c37 => ?_)
  · skip
    refine lv_bipush (v := (-11)) hx hb dX4_copy_48 (by decide) ?_
    exact rr_iret hx hb hr hlocks dX4_copy_50 (rfl)
  refine lv_aload hx hb dX4_copy_40 (lv_at hl 0 rfl) ?_
  refine va_get (D := (dC, dI)) (ci := 1) (v := .int (bi th)) (C := RX1) (T := TX1) (N := 4) hx hb hts hiX1 hown hK hP 2 rfl rfl 0 (by decide) (hts (.fieldLink RX4 231 "RestRegisters$Sheet" "isThere" "Z") (by decide +kernel)) (fun _ h9 => h9) rfl dX4_copy_42 ?_
  refine rb_if_ne (tgt := 51) hx hb dX4_copy_45 (by decide) (fun c45 => ?_) (fun c45 => ?_)
  · skip
    exact absurd (c37.symm.trans hbad) (by decide)
  refine lv_bipush (v := (-11)) hx hb dX4_copy_48 (by decide) ?_
  exact rr_iret hx hb hr hlocks dX4_copy_50 (rfl)
set_option maxHeartbeats 4000000 in
set_option maxRecDepth 100000 in
theorem c_X4_copy_is (l : Launch) (dC : Nat → ClassId) (dI : Nat → Nat → Nat) (cI cJ cS : ClassId) (x0 t0 b0 k0 sa : Nat) (im : Bool) (sd sq : Nat → Nat) (sh : Nat) (th : Bool) (ln len : Nat) (row : Nat → Int64) (i j z : Int32) (hs4 : sh < 4) (hlen : len ≤ 24) (hth : th = true) (hbad : (hasS len i z && hasS len j z) = false) (hl3 : ln ≤ 3) : Met l yX4_copy wsX4_copy ({ frames := 2, cells := 0, slots := 0, locals := 60 }) (va_Pc [.ref x0, .int (nI sh), .int i, .int (nI sh), .int j, .int z] (rB (dC, dI) vwCl [(x0, .inr (4, [.ref t0, .ref b0, .ref k0, .int (bi im), .ref sa])), (sa, .inl (cS, 4, .inr (.inr (.inr (.inr (saF sd)))))), (sd sh, .inr (1, [.int (bi th), .int (nI ln), .int (nI len), .ref (sq sh)])), (sq sh, .inl (cJ, 24, .inr (.inl row)))] (tyz cI cJ cS))) (QcRead (-13)) 0 0 (fun _ => False) := by
  refine Met.ofW (cc := cX4_copy) (maxL := 8) (ret := (some .int)) (by decide) rfl ?_
  intro p e s m args below meth c s₁ B hml hv
  obtain ⟨rfl, hP, hKK⟩ := hv
  have hK := hKK.1
  have hx := B.exec
  have hb := B.bytes
  have hr := B.returns
  have hts := atoms_spec (ws := wsX4_copy) B.pre
  have hown : s.vm.findClass RX4 = some m.cls := findClass_of_methodNamed B.named
  have hlocks := B.notSynchronized
  have hiX1 : ∀ w ∈ wsX10, w ∈ wsX4_copy := by decide +kernel
  have hiX4 : ∀ w ∈ wsX40, w ∈ wsX4_copy := by decide +kernel
  have hl := lv_entry ([.ref x0, .int (nI sh), .int i, .int (nI sh), .int j, .int z]) (n := 8) (Nat.le_of_ble_eq_true rfl)
  rw [lg_entry_eq]
  generalize (lg_sl ([.ref x0, .int (nI sh), .int i, .int (nI sh), .int j, .int z]) ++ List.replicate (8 - (lg_sl ([.ref x0, .int (nI sh), .int i, .int (nI sh), .int j, .int z])).length) Slot.unset).toArray = ls at hl ⊢
  have hl : lv_has ls 8 [(0, .ref x0), (1, .int (nI sh)), (2, .int i), (3, .int (nI sh)), (4, .int j), (5, .int z)] := hl
  refine lv_iload_n hx hb dX4_copy_0 rfl (lv_at hl 1 rfl) ?_
  refine rr_callR (va_runS (As := [.int (nI sh)]) (rest := []) ⟨hx, hb, hml, hown, hts⟩ (c_X4_isSheet l (nI sh) ) (va_cwS 1 hts gX4_copy_X4_isSheet rfl rfl rfl (by decide +kernel) ⟨Nat.le_of_ble_eq_true rfl, Nat.le_of_ble_eq_true rfl⟩) rr_preT rfl rfl hl.1 rfl (lv_room (Nat.le_of_ble_eq_true rfl)) dX4_copy_1 ⟨Nat.zero_le _, Nat.zero_le _⟩) ?_
  refine rr_top (y := bi true) (congrArg bi (inb_lt (by omega) (by omega))) ?_
  refine rb_if_eq (tgt := 14) hx hb dX4_copy_4 (by decide) (fun c4 => ?_) (fun c4 => ?_)
  · exact absurd c4 (by decide)
  refine lv_iload_n hx hb dX4_copy_7 rfl (lv_at hl 3 rfl) ?_
  refine rr_callR (va_runS (As := [.int (nI sh)]) (rest := []) ⟨hx, hb, hml, hown, hts⟩ (c_X4_isSheet l (nI sh) ) (va_cwS 1 hts gX4_copy_X4_isSheet rfl rfl rfl (by decide +kernel) ⟨Nat.le_of_ble_eq_true rfl, Nat.le_of_ble_eq_true rfl⟩) rr_preT rfl rfl hl.1 rfl (lv_room (Nat.le_of_ble_eq_true rfl)) dX4_copy_8 ⟨Nat.zero_le _, Nat.zero_le _⟩) ?_
  refine rr_top (y := bi true) (congrArg bi (inb_lt (by omega) (by omega))) ?_
  refine rb_if_ne (tgt := 16) hx hb dX4_copy_11 (by decide) (fun c11 => ?_) (fun c11 => ?_)
  rotate_left
  · exact absurd c11 (by decide)
  refine lv_aload_n hx hb dX4_copy_16 rfl (lv_at hl 0 rfl) ?_
  refine va_get (D := (dC, dI)) (ci := 4) (v := .ref sa) (C := RX4) (T := TX4) (N := 5) hx hb hts hiX4 hown hK hP 0 rfl rfl 4 (by decide) (hts (.fieldLink RX4 28 "RestRegisters" "sheets" "[LRestRegisters$Sheet;") (by decide +kernel)) (fun _ h9 => h9) rfl dX4_copy_17 ?_
  refine lv_iload_n hx hb dX4_copy_20 rfl (lv_at hl 1 rfl) ?_
  refine rn_aald hx hb hK hP 1 2 rfl rfl (i := sh) (by omega) (by decide) (v := sd sh) rfl dX4_copy_21 ?_
  refine lv_astore (lv' := [(6, .ref (sd sh)), (0, .ref x0), (1, .int (nI sh)), (2, .int i), (3, .int (nI sh)), (4, .int j), (5, .int z)]) hx hb dX4_copy_22 hl (by decide) rfl (fun ls hl => ?_)
  refine lv_aload_n hx hb dX4_copy_24 rfl (lv_at hl 1 rfl) ?_
  refine va_get (D := (dC, dI)) (ci := 4) (v := .ref sa) (C := RX4) (T := TX4) (N := 5) hx hb hts hiX4 hown hK hP 0 rfl rfl 4 (by decide) (hts (.fieldLink RX4 28 "RestRegisters" "sheets" "[LRestRegisters$Sheet;") (by decide +kernel)) (fun _ h9 => h9) rfl dX4_copy_25 ?_
  refine lv_iload_n hx hb dX4_copy_28 rfl (lv_at hl 4 rfl) ?_
  refine rn_aald hx hb hK hP 1 2 rfl rfl (i := sh) (by omega) (by decide) (v := sd sh) rfl dX4_copy_29 ?_
  refine lv_astore (lv' := [(7, .ref (sd sh)), (6, .ref (sd sh)), (0, .ref x0), (1, .int (nI sh)), (2, .int i), (3, .int (nI sh)), (4, .int j), (5, .int z)]) hx hb dX4_copy_30 hl (by decide) rfl (fun ls hl => ?_)
  refine lv_aload hx hb dX4_copy_32 (lv_at hl 1 rfl) ?_
  refine va_get (D := (dC, dI)) (ci := 1) (v := .int (bi th)) (C := RX1) (T := TX1) (N := 4) hx hb hts hiX1 hown hK hP 2 rfl rfl 0 (by decide) (hts (.fieldLink RX4 231 "RestRegisters$Sheet" "isThere" "Z") (by decide +kernel)) (fun _ h9 => h9) rfl dX4_copy_34 ?_
  refine rb_if_eq (tgt := 48) hx hb dX4_copy_37 (by decide) (fun c37 => ?_) (fun c37 => ?_)
  · skip
    first | exact absurd (c37.symm.trans hth) (by decide) | exact absurd (c45.symm.trans hth) (by decide)
  refine lv_aload hx hb dX4_copy_40 (lv_at hl 0 rfl) ?_
  refine va_get (D := (dC, dI)) (ci := 1) (v := .int (bi th)) (C := RX1) (T := TX1) (N := 4) hx hb hts hiX1 hown hK hP 2 rfl rfl 0 (by decide) (hts (.fieldLink RX4 231 "RestRegisters$Sheet" "isThere" "Z") (by decide +kernel)) (fun _ h9 => h9) rfl dX4_copy_42 ?_
  refine rb_if_ne (tgt := 51) hx hb dX4_copy_45 (by decide) (fun c45 => ?_) (fun c45 => ?_)
  · skip
    refine lv_aload hx hb dX4_copy_51 (lv_at hl 1 rfl) ?_
    refine va_get (D := (dC, dI)) (ci := 1) (v := .int (nI ln)) (C := RX1) (T := TX1) (N := 4) hx hb hts hiX1 hown hK hP 2 rfl rfl 1 (by decide) (hts (.fieldLink RX4 239 "RestRegisters$Sheet" "lane" "I") (by decide +kernel)) (fun _ h9 => h9) rfl dX4_copy_53 ?_
    refine lv_aload hx hb dX4_copy_56 (lv_at hl 0 rfl) ?_
    refine va_get (D := (dC, dI)) (ci := 1) (v := .int (nI ln)) (C := RX1) (T := TX1) (N := 4) hx hb hts hiX1 hown hK hP 2 rfl rfl 1 (by decide) (hts (.fieldLink RX4 239 "RestRegisters$Sheet" "lane" "I") (by decide +kernel)) (fun _ h9 => h9) rfl dX4_copy_58 ?_
    refine rn_icmp_eq (tgt := 67) hx hb dX4_copy_61 (by decide) (by omega) (by omega) (fun c61 => ?_) (fun c61 => ?_)
    · skip
      refine lv_aload hx hb dX4_copy_67 (lv_at hl 1 rfl) ?_
      refine lv_iload_n hx hb dX4_copy_69 rfl (lv_at hl 4 rfl) ?_
      refine lv_iload hx hb dX4_copy_70 (lv_at hl 7 rfl) ?_
      refine rr_callR (va_runV (As := [.int i, .int z]) (rest := []) ⟨hx, hb, hml, hown, hts⟩ (c_X1_has l dC dI cI cJ cS (sd sh) (sq sh) th ln len row i z (by first | assumption | omega)) (cwV 2 hts gX4_copy_X1_has rfl rfl rfl (by decide +kernel) ⟨Nat.le_of_ble_eq_true rfl, Nat.le_of_ble_eq_true rfl⟩) (rr_preV hKK (hP.sub [2, 3] rfl) rfl rfl) rfl rfl hl.1 rfl (lv_room (Nat.le_of_ble_eq_true rfl)) dX4_copy_72 ⟨Nat.zero_le _, Nat.zero_le _⟩) ?_
      refine rb_if_eq (tgt := 90) hx hb dX4_copy_75 (by decide) (fun c75 => ?_) (fun c75 => ?_)
      · skip
        refine lv_bipush (v := (-13)) hx hb dX4_copy_90 (by decide) ?_
        exact rr_iret hx hb hr hlocks dX4_copy_92 (rfl)
      refine lv_aload hx hb dX4_copy_78 (lv_at hl 0 rfl) ?_
      refine lv_iload hx hb dX4_copy_80 (lv_at hl 6 rfl) ?_
      refine lv_iload hx hb dX4_copy_82 (lv_at hl 7 rfl) ?_
      refine rr_callR (va_runV (As := [.int j, .int z]) (rest := []) ⟨hx, hb, hml, hown, hts⟩ (c_X1_has l dC dI cI cJ cS (sd sh) (sq sh) th ln len row j z (by first | assumption | omega)) (cwV 2 hts gX4_copy_X1_has rfl rfl rfl (by decide +kernel) ⟨Nat.le_of_ble_eq_true rfl, Nat.le_of_ble_eq_true rfl⟩) (rr_preV hKK (hP.sub [2, 3] rfl) rfl rfl) rfl rfl hl.1 rfl (lv_room (Nat.le_of_ble_eq_true rfl)) dX4_copy_84 ⟨Nat.zero_le _, Nat.zero_le _⟩) ?_
      refine rb_if_ne (tgt := 93) hx hb dX4_copy_87 (by decide) (fun c87 => ?_) (fun c87 => ?_)
      · skip
        exact absurd hbad (by rw [c75, c87]; decide)
      refine lv_bipush (v := (-13)) hx hb dX4_copy_90 (by decide) ?_
      exact rr_iret hx hb hr hlocks dX4_copy_92 (rfl)
    exact absurd rfl c61
  first | exact absurd (c37.symm.trans hth) (by decide) | exact absurd (c45.symm.trans hth) (by decide)
set_option maxHeartbeats 4000000 in
set_option maxRecDepth 100000 in
theorem c_X4_copy_gs (l : Launch) (dC : Nat → ClassId) (dI : Nat → Nat → Nat) (cI cJ cS : ClassId) (sz : Nat) (x0 t0 b0 k0 sa : Nat) (im : Bool) (sd sq : Nat → Nat) (sh : Nat) (th : Bool) (ln len : Nat) (row : Nat → Int64) (a b t : Nat) (hs4 : sh < 4) (hlen : len ≤ 24) (hth : th = true) (has : a + t ≤ len) (hbs : b + t ≤ len) (hl3 : ln ≤ 3) : Met l yX4_copy wsX4_copy ({ frames := 2, cells := 0, slots := 0, locals := 60 }) (va_Pc [.ref x0, .int (nI sh), .int (nI a), .int (nI sh), .int (nI b), .int (nI t)] (rW (dC, dI) vwCl [(x0, .inr (4, [.ref t0, .ref b0, .ref k0, .int (bi im), .ref sa])), (sa, .inl (cS, 4, .inr (.inr (.inr (.inr (saF sd)))))), (sd sh, .inr (1, [.int (bi th), .int (nI ln), .int (nI len), .ref (sq sh)])), (sq sh, .inl (cJ, 24, .inr (.inl row)))] (tyz cI cJ cS) sz)) (qI (nI t) (dC, dI) vwCl [(x0, .inr (4, [.ref t0, .ref b0, .ref k0, .int (bi im), .ref sa])), (sa, .inl (cS, 4, .inr (.inr (.inr (.inr (saF sd)))))), (sd sh, .inr (1, [.int (bi th), .int (nI ln), .int (nI len), .ref (sq sh)])), (sq sh, .inl (cJ, 24, .inr (.inl (va_cpy row row a b t))))] (va_A [(x0, .inr (4, [.ref t0, .ref b0, .ref k0, .int (bi im), .ref sa])), (sa, .inl (cS, 4, .inr (.inr (.inr (.inr (saF sd)))))), (sd sh, .inr (1, [.int (bi th), .int (nI ln), .int (nI len), .ref (sq sh)])), (sq sh, .inl (cJ, 24, .inr (.inl row)))] sz)) 0 0 (va_A [(x0, .inr (4, [.ref t0, .ref b0, .ref k0, .int (bi im), .ref sa])), (sa, .inl (cS, 4, .inr (.inr (.inr (.inr (saF sd)))))), (sd sh, .inr (1, [.int (bi th), .int (nI ln), .int (nI len), .ref (sq sh)])), (sq sh, .inl (cJ, 24, .inr (.inl row)))] sz) := by
  refine Met.ofW (cc := cX4_copy) (maxL := 8) (ret := (some .int)) (by decide) rfl ?_
  intro p e s m args below meth c s₁ B hml hv
  obtain ⟨rfl, hsz, hP, hKK, hD0⟩ := hv
  have hK := hKK.1
  have hx := B.exec
  have hb := B.bytes
  have hr := B.returns
  have hts := atoms_spec (ws := wsX4_copy) B.pre
  have hown : s.vm.findClass RX4 = some m.cls := findClass_of_methodNamed B.named
  have hlocks := B.notSynchronized
  subst hsz
  have hD := hD0.self (sz := s.heap.size)
  generalize hAe : va_A [(x0, .inr (4, [.ref t0, .ref b0, .ref k0, .int (bi im), .ref sa])), (sa, .inl (cS, 4, .inr (.inr (.inr (.inr (saF sd)))))), (sd sh, .inr (1, [.int (bi th), .int (nI ln), .int (nI len), .ref (sq sh)])), (sq sh, .inl (cJ, 24, .inr (.inl row)))] s.heap.size = A at hD ⊢
  have hA : ∀ q : Nat, s.heap.size ≤ q → A q := fun q h => by rw [← hAe]; exact Or.inr h
  have hS : va_S A s.heap s.heap [] := va_S.rf
  have hP : va_P (dC, dI) vwCl [(x0, .inr (4, [.ref t0, .ref b0, .ref k0, .int (bi im), .ref sa])), (sa, .inl (cS, 4, .inr (.inr (.inr (.inr (saF sd)))))), (sd sh, .inr (1, [.int (bi th), .int (nI ln), .int (nI len), .ref (sq sh)])), (sq sh, .inl (cJ, 24, .inr (.inl row)))] s.heap := hP
  have hiX1 : ∀ w ∈ wsX10, w ∈ wsX4_copy := by decide +kernel
  have hiX4 : ∀ w ∈ wsX40, w ∈ wsX4_copy := by decide +kernel
  have hl := lv_entry ([.ref x0, .int (nI sh), .int (nI a), .int (nI sh), .int (nI b), .int (nI t)]) (n := 8) (Nat.le_of_ble_eq_true rfl)
  rw [lg_entry_eq]
  generalize (lg_sl ([.ref x0, .int (nI sh), .int (nI a), .int (nI sh), .int (nI b), .int (nI t)]) ++ List.replicate (8 - (lg_sl ([.ref x0, .int (nI sh), .int (nI a), .int (nI sh), .int (nI b), .int (nI t)])).length) Slot.unset).toArray = ls at hl ⊢
  have hl : lv_has ls 8 [(0, .ref x0), (1, .int (nI sh)), (2, .int (nI a)), (3, .int (nI sh)), (4, .int (nI b)), (5, .int (nI t))] := hl
  refine lv_iload_n hx hb dX4_copy_0 rfl (lv_at hl 1 rfl) ?_
  refine rr_callR (va_runS (As := [.int (nI sh)]) (rest := []) ⟨hx, hb, hml, hown, hts⟩ (c_X4_isSheet l (nI sh) ) (va_cwS 1 hts gX4_copy_X4_isSheet rfl rfl rfl (by decide +kernel) ⟨Nat.le_of_ble_eq_true rfl, Nat.le_of_ble_eq_true rfl⟩) rr_preT rfl rfl hl.1 rfl (lv_room (Nat.le_of_ble_eq_true rfl)) dX4_copy_1 ⟨Nat.zero_le _, Nat.zero_le _⟩) ?_
  refine rr_top (y := bi true) (congrArg bi (inb_lt (by omega) (by omega))) ?_
  refine rb_if_eq (tgt := 14) hx hb dX4_copy_4 (by decide) (fun c4 => ?_) (fun c4 => ?_)
  · exact absurd c4 (by decide)
  refine lv_iload_n hx hb dX4_copy_7 rfl (lv_at hl 3 rfl) ?_
  refine rr_callR (va_runS (As := [.int (nI sh)]) (rest := []) ⟨hx, hb, hml, hown, hts⟩ (c_X4_isSheet l (nI sh) ) (va_cwS 1 hts gX4_copy_X4_isSheet rfl rfl rfl (by decide +kernel) ⟨Nat.le_of_ble_eq_true rfl, Nat.le_of_ble_eq_true rfl⟩) rr_preT rfl rfl hl.1 rfl (lv_room (Nat.le_of_ble_eq_true rfl)) dX4_copy_8 ⟨Nat.zero_le _, Nat.zero_le _⟩) ?_
  refine rr_top (y := bi true) (congrArg bi (inb_lt (by omega) (by omega))) ?_
  refine rb_if_ne (tgt := 16) hx hb dX4_copy_11 (by decide) (fun c11 => ?_) (fun c11 => ?_)
  rotate_left
  · exact absurd c11 (by decide)
  refine lv_aload_n hx hb dX4_copy_16 rfl (lv_at hl 0 rfl) ?_
  refine va_get (D := (dC, dI)) (ci := 4) (v := .ref sa) (C := RX4) (T := TX4) (N := 5) hx hb hts hiX4 hown hK hP 0 rfl rfl 4 (by decide) (hts (.fieldLink RX4 28 "RestRegisters" "sheets" "[LRestRegisters$Sheet;") (by decide +kernel)) (fun _ h9 => h9) rfl dX4_copy_17 ?_
  refine lv_iload_n hx hb dX4_copy_20 rfl (lv_at hl 1 rfl) ?_
  refine rn_aald hx hb hK hP 1 2 rfl rfl (i := sh) (by omega) (by decide) (v := sd sh) rfl dX4_copy_21 ?_
  refine lv_astore (lv' := [(6, .ref (sd sh)), (0, .ref x0), (1, .int (nI sh)), (2, .int (nI a)), (3, .int (nI sh)), (4, .int (nI b)), (5, .int (nI t))]) hx hb dX4_copy_22 hl (by decide) rfl (fun ls hl => ?_)
  refine lv_aload_n hx hb dX4_copy_24 rfl (lv_at hl 1 rfl) ?_
  refine va_get (D := (dC, dI)) (ci := 4) (v := .ref sa) (C := RX4) (T := TX4) (N := 5) hx hb hts hiX4 hown hK hP 0 rfl rfl 4 (by decide) (hts (.fieldLink RX4 28 "RestRegisters" "sheets" "[LRestRegisters$Sheet;") (by decide +kernel)) (fun _ h9 => h9) rfl dX4_copy_25 ?_
  refine lv_iload_n hx hb dX4_copy_28 rfl (lv_at hl 4 rfl) ?_
  refine rn_aald hx hb hK hP 1 2 rfl rfl (i := sh) (by omega) (by decide) (v := sd sh) rfl dX4_copy_29 ?_
  refine lv_astore (lv' := [(7, .ref (sd sh)), (6, .ref (sd sh)), (0, .ref x0), (1, .int (nI sh)), (2, .int (nI a)), (3, .int (nI sh)), (4, .int (nI b)), (5, .int (nI t))]) hx hb dX4_copy_30 hl (by decide) rfl (fun ls hl => ?_)
  refine lv_aload hx hb dX4_copy_32 (lv_at hl 1 rfl) ?_
  refine va_get (D := (dC, dI)) (ci := 1) (v := .int (bi th)) (C := RX1) (T := TX1) (N := 4) hx hb hts hiX1 hown hK hP 2 rfl rfl 0 (by decide) (hts (.fieldLink RX4 231 "RestRegisters$Sheet" "isThere" "Z") (by decide +kernel)) (fun _ h9 => h9) rfl dX4_copy_34 ?_
  refine rb_if_eq (tgt := 48) hx hb dX4_copy_37 (by decide) (fun c37 => ?_) (fun c37 => ?_)
  · skip
    first | exact absurd (c37.symm.trans hth) (by decide) | exact absurd (c45.symm.trans hth) (by decide)
  refine lv_aload hx hb dX4_copy_40 (lv_at hl 0 rfl) ?_
  refine va_get (D := (dC, dI)) (ci := 1) (v := .int (bi th)) (C := RX1) (T := TX1) (N := 4) hx hb hts hiX1 hown hK hP 2 rfl rfl 0 (by decide) (hts (.fieldLink RX4 231 "RestRegisters$Sheet" "isThere" "Z") (by decide +kernel)) (fun _ h9 => h9) rfl dX4_copy_42 ?_
  refine rb_if_ne (tgt := 51) hx hb dX4_copy_45 (by decide) (fun c45 => ?_) (fun c45 => ?_)
  · skip
    refine lv_aload hx hb dX4_copy_51 (lv_at hl 1 rfl) ?_
    refine va_get (D := (dC, dI)) (ci := 1) (v := .int (nI ln)) (C := RX1) (T := TX1) (N := 4) hx hb hts hiX1 hown hK hP 2 rfl rfl 1 (by decide) (hts (.fieldLink RX4 239 "RestRegisters$Sheet" "lane" "I") (by decide +kernel)) (fun _ h9 => h9) rfl dX4_copy_53 ?_
    refine lv_aload hx hb dX4_copy_56 (lv_at hl 0 rfl) ?_
    refine va_get (D := (dC, dI)) (ci := 1) (v := .int (nI ln)) (C := RX1) (T := TX1) (N := 4) hx hb hts hiX1 hown hK hP 2 rfl rfl 1 (by decide) (hts (.fieldLink RX4 239 "RestRegisters$Sheet" "lane" "I") (by decide +kernel)) (fun _ h9 => h9) rfl dX4_copy_58 ?_
    refine rn_icmp_eq (tgt := 67) hx hb dX4_copy_61 (by decide) (by omega) (by omega) (fun c61 => ?_) (fun c61 => ?_)
    · skip
      refine lv_aload hx hb dX4_copy_67 (lv_at hl 1 rfl) ?_
      refine lv_iload_n hx hb dX4_copy_69 rfl (lv_at hl 4 rfl) ?_
      refine lv_iload hx hb dX4_copy_70 (lv_at hl 7 rfl) ?_
      refine rr_callR (va_runV (As := [.int (nI a), .int (nI t)]) (rest := []) ⟨hx, hb, hml, hown, hts⟩ (c_X1_has l dC dI cI cJ cS (sd sh) (sq sh) th ln len row (nI a) (nI t) (by first | assumption | omega)) (cwV 2 hts gX4_copy_X1_has rfl rfl rfl (by decide +kernel) ⟨Nat.le_of_ble_eq_true rfl, Nat.le_of_ble_eq_true rfl⟩) (rr_preV hKK (hP.sub [2, 3] rfl) rfl rfl) rfl rfl hl.1 rfl (lv_room (Nat.le_of_ble_eq_true rfl)) dX4_copy_72 ⟨Nat.zero_le _, Nat.zero_le _⟩) ?_
      refine rr_top (y := (bi true)) (congrArg bi (by rw [hasS_nI (by omega) (by omega), decide_eq_true has])) ?_
      refine rb_if_eq (tgt := 90) hx hb dX4_copy_75 (by decide) (fun c75 => ?_) (fun c75 => ?_)
      · exact absurd c75 (by decide)
      refine lv_aload hx hb dX4_copy_78 (lv_at hl 0 rfl) ?_
      refine lv_iload hx hb dX4_copy_80 (lv_at hl 6 rfl) ?_
      refine lv_iload hx hb dX4_copy_82 (lv_at hl 7 rfl) ?_
      refine rr_callR (va_runV (As := [.int (nI b), .int (nI t)]) (rest := []) ⟨hx, hb, hml, hown, hts⟩ (c_X1_has l dC dI cI cJ cS (sd sh) (sq sh) th ln len row (nI b) (nI t) (by first | assumption | omega)) (cwV 2 hts gX4_copy_X1_has rfl rfl rfl (by decide +kernel) ⟨Nat.le_of_ble_eq_true rfl, Nat.le_of_ble_eq_true rfl⟩) (rr_preV hKK (hP.sub [2, 3] rfl) rfl rfl) rfl rfl hl.1 rfl (lv_room (Nat.le_of_ble_eq_true rfl)) dX4_copy_84 ⟨Nat.zero_le _, Nat.zero_le _⟩) ?_
      refine rr_top (y := (bi true)) (congrArg bi (by rw [hasS_nI (by omega) (by omega), decide_eq_true hbs])) ?_
      refine rb_if_ne (tgt := 93) hx hb dX4_copy_87 (by decide) (fun c87 => ?_) (fun c87 => ?_)
      rotate_left
      · exact absurd c87 (by decide)
      refine lv_aload hx hb dX4_copy_93 (lv_at hl 1 rfl) ?_
      refine va_get (D := (dC, dI)) (ci := 1) (v := .ref (sq sh)) (C := RX1) (T := TX1) (N := 4) hx hb hts hiX1 hown hK hP 2 rfl rfl 3 (by decide) (hts (.fieldLink RX4 210 "RestRegisters$Sheet" "items" "[J") (by decide +kernel)) (fun _ h9 => h9) rfl dX4_copy_95 ?_
      refine lv_iload_n hx hb dX4_copy_98 rfl (lv_at hl 4 rfl) ?_
      refine lv_aload hx hb dX4_copy_99 (lv_at hl 0 rfl) ?_
      refine va_get (D := (dC, dI)) (ci := 1) (v := .ref (sq sh)) (C := RX1) (T := TX1) (N := 4) hx hb hts hiX1 hown hK hP 2 rfl rfl 3 (by decide) (hts (.fieldLink RX4 210 "RestRegisters$Sheet" "items" "[J") (by decide +kernel)) (fun _ h9 => h9) rfl dX4_copy_101 ?_
      refine lv_iload hx hb dX4_copy_104 (lv_at hl 6 rfl) ?_
      refine lv_iload hx hb dX4_copy_106 (lv_at hl 7 rfl) ?_
      refine rn_copyl hx hb (hml.trans hl.1.symm) hown (hts (.methodLink RX4 245 arraycopyName) (by decide +kernel)) (hts (.native arraycopyName) (by decide +kernel)) (hts (.static arraycopyName) (by decide +kernel)) (hts (.initialized "java/lang/System") (by decide +kernel)) hK hP hD hS 3 3 1 1 rfl rfl rfl rfl rfl (sp := a) (dp := b) (n := t) (by omega) (by omega) (by decide) (by decide) (fun _ _ => rfl) (Nat.le_of_ble_eq_true rfl) (Nat.le_of_ble_eq_true rfl) dX4_copy_108 (fun H locs hP hD hS => ?_)
      have hP : va_P (dC, dI) vwCl [(x0, .inr (4, [.ref t0, .ref b0, .ref k0, .int (bi im), .ref sa])), (sa, .inl (cS, 4, .inr (.inr (.inr (.inr (saF sd)))))), (sd sh, .inr (1, [.int (bi th), .int (nI ln), .int (nI len), .ref (sq sh)])), (sq sh, .inl (cJ, 24, .inr (.inl (va_cpy row row a b t))))] H := hP
      have hD : va_D A [(x0, .inr (4, [.ref t0, .ref b0, .ref k0, .int (bi im), .ref sa])), (sa, .inl (cS, 4, .inr (.inr (.inr (.inr (saF sd)))))), (sd sh, .inr (1, [.int (bi th), .int (nI ln), .int (nI len), .ref (sq sh)])), (sq sh, .inl (cJ, 24, .inr (.inl (va_cpy row row a b t))))] := hD
      refine lv_iload hx hb dX4_copy_111 (lv_at hl 7 rfl) ?_
      exact rr_iretW hx hb hr hlocks dX4_copy_113 hP hD hS (rfl)
    exact absurd rfl c61
  first | exact absurd (c37.symm.trans hth) (by decide) | exact absurd (c45.symm.trans hth) (by decide)
