set_option maxHeartbeats 4000000 in
set_option maxRecDepth 100000 in
theorem c_X4_isWheel (l : Launch) (dC : Nat → ClassId) (dI : Nat → Nat → Nat) (cI cJ cS : ClassId) (x0 t0 k0 sa : Nat) (im : Bool) (b0 h3 hk hw hs hrs hpr hpd : Nat) (n h rg sp dr kn nx : Nat) (kf wf sf : Nat → Int32) (Kd Wd Sh Rr Pr Pd : Nat → Nat) (x : Int32) (ok : wOk n Kd Wd) : Met l yX4_isWheel wsX4_isWheel ({ frames := 1, cells := 0, slots := 0, locals := 21 }) (va_Pc [.ref x0, .int x] (rB (dC, dI) vwCl [(x0, .inr (4, [.ref t0, .ref b0, .ref k0, .int (bi im), .ref sa])), (b0, .inr (0, [.ref h3, .ref hrs, .int (nI dr), .int (nI kn), .int (nI nx), .ref hpr, .ref hpd])), (h3, .inr (3, [.int (nI n), .int (nI h), .int (nI rg), .int (nI sp), .ref hk, .ref hw, .ref hs])), (hk, .inl (cI, 6, .inl kf)), (hw, .inl (cI, 6, .inl wf)), (hs, .inl (cI, 6, .inl sf)), (hrs, .inl (cI, 24, .inl (nA Rr))), (hpr, .inl (cI, 192, .inl (nA Pr))), (hpd, .inl (cI, 8, .inl (nA Pd)))] (tyz cI cJ cS))) (QcRead (bi (inb x n))) 0 0 (fun _ => False) := by
  refine Met.ofW (cc := cX4_isWheel) (maxL := 2) (ret := (some .boolean)) (by decide) rfl ?_
  intro p e s m args below meth c s₁ B hml hv
  obtain ⟨rfl, hP, hKK⟩ := hv
  have hK := hKK.1
  have hx := B.exec
  have hb := B.bytes
  have hr := B.returns
  have hts := atoms_spec (ws := wsX4_isWheel) B.pre
  have hown : s.vm.findClass RX4 = some m.cls := findClass_of_methodNamed B.named
  have hlocks := B.notSynchronized
  have hiX0 : ∀ w ∈ wsX00, w ∈ wsX4_isWheel := by decide +kernel
  have hiX3 : ∀ w ∈ wsX30, w ∈ wsX4_isWheel := by decide +kernel
  have hiX4 : ∀ w ∈ wsX40, w ∈ wsX4_isWheel := by decide +kernel
  have hl := lv_entry ([.ref x0, .int x]) (n := 2) (Nat.le_of_ble_eq_true rfl)
  rw [lg_entry_eq]
  generalize (lg_sl ([.ref x0, .int x]) ++ List.replicate (2 - (lg_sl ([.ref x0, .int x])).length) Slot.unset).toArray = ls at hl ⊢
  have hl : lv_has ls 2 [(0, .ref x0), (1, .int x)] := hl
  have hn6 := ok.1
  refine lv_iload_n hx hb dX4_isWheel_0 rfl (lv_at hl 1 rfl) ?_
  refine lv_aload_n hx hb dX4_isWheel_1 rfl (lv_at hl 0 rfl) ?_
  refine va_get (D := (dC, dI)) (ci := 4) (v := .ref b0) (C := RX4) (T := TX4) (N := 5) hx hb hts hiX4 hown hK hP 0 rfl rfl 1 (by decide) (hts (.fieldLink RX4 19 "RestRegisters" "now" "LRestRegisters$Bank;") (by decide +kernel)) (fun _ h9 => h9) rfl dX4_isWheel_2 ?_
  refine va_get (D := (dC, dI)) (ci := 0) (v := .ref h3) (C := RX0) (T := TX0) (N := 7) hx hb hts hiX0 hown hK hP 1 rfl rfl 0 (by decide) (hts (.fieldLink RX4 61 "RestRegisters$Bank" "wheels" "LRestRegisters$Wheels;") (by decide +kernel)) (fun _ h9 => h9) rfl dX4_isWheel_5 ?_
  refine va_get (D := (dC, dI)) (ci := 3) (v := .int (nI n)) (C := RX3) (T := TX3) (N := 7) hx hb hts hiX3 hown hK hP 2 rfl rfl 0 (by decide) (hts (.fieldLink RX4 104 "RestRegisters$Wheels" "size" "I") (by decide +kernel)) (fun _ h9 => h9) rfl dX4_isWheel_8 ?_
  refine rr_callR (va_runS (As := [.int x, .int (nI n)]) (rest := []) ⟨hx, hb, hml, hown, hts⟩ (c_X4_isBelow l x n (by first | assumption | omega)) (va_cwS 2 hts gX4_isWheel_X4_isBelow rfl rfl rfl (by decide +kernel) ⟨Nat.le_of_ble_eq_true rfl, Nat.le_of_ble_eq_true rfl⟩) rr_preT rfl rfl hl.1 rfl (lv_room (Nat.le_of_ble_eq_true rfl)) dX4_isWheel_11 ⟨Nat.zero_le _, Nat.zero_le _⟩) ?_
  exact rr_zret hx hb hr hlocks dX4_isWheel_14 (rfl)
set_option maxHeartbeats 4000000 in
set_option maxRecDepth 100000 in
theorem c_X4_of_0 (l : Launch) (dC : Nat → ClassId) (dI : Nat → Nat → Nat) (cI cJ cS : ClassId) (x0 t0 k0 sa : Nat) (im : Bool) (b0 h3 hk hw hs hrs hpr hpd : Nat) (n h rg sp dr kn nx : Nat) (kf wf sf : Nat → Int32) (Kd Wd Sh Rr Pr Pd : Nat → Nat) (k : Nat) (ok : wOk n Kd Wd) (fk : isA n kf Kd) (fw : isA n wf Wd) (hk2 : k < n) (hh : h ≤ n) : Met l yX4_of wsX4_of ({ frames := 6, cells := 0, slots := 0, locals := 139 }) (va_Pc [.ref x0, .int (nI k), .int (nI 0)] (rB (dC, dI) vwCl [(x0, .inr (4, [.ref t0, .ref b0, .ref k0, .int (bi im), .ref sa])), (b0, .inr (0, [.ref h3, .ref hrs, .int (nI dr), .int (nI kn), .int (nI nx), .ref hpr, .ref hpd])), (h3, .inr (3, [.int (nI n), .int (nI h), .int (nI rg), .int (nI sp), .ref hk, .ref hw, .ref hs])), (hk, .inl (cI, 6, .inl kf)), (hw, .inl (cI, 6, .inl wf)), (hs, .inl (cI, 6, .inl sf)), (hrs, .inl (cI, 24, .inl (nA Rr))), (hpr, .inl (cI, 192, .inl (nA Pr))), (hpd, .inl (cI, 8, .inl (nA Pd)))] (tyz cI cJ cS))) (QcRead (nI (Kd k))) 0 0 (fun _ => False) := by
  refine Met.ofW (cc := cX4_of) (maxL := 4) (ret := (some .int)) (by decide) rfl ?_
  intro p e s m args below meth c s₁ B hml hv
  obtain ⟨rfl, hP, hKK⟩ := hv
  have hK := hKK.1
  have hx := B.exec
  have hb := B.bytes
  have hr := B.returns
  have hts := atoms_spec (ws := wsX4_of) B.pre
  have hown : s.vm.findClass RX4 = some m.cls := findClass_of_methodNamed B.named
  have hlocks := B.notSynchronized
  have hiX0 : ∀ w ∈ wsX00, w ∈ wsX4_of := by decide +kernel
  have hiX3 : ∀ w ∈ wsX30, w ∈ wsX4_of := by decide +kernel
  have hiX4 : ∀ w ∈ wsX40, w ∈ wsX4_of := by decide +kernel
  have hl := lv_entry ([.ref x0, .int (nI k), .int (nI 0)]) (n := 4) (Nat.le_of_ble_eq_true rfl)
  rw [lg_entry_eq]
  generalize (lg_sl ([.ref x0, .int (nI k), .int (nI 0)]) ++ List.replicate (4 - (lg_sl ([.ref x0, .int (nI k), .int (nI 0)])).length) Slot.unset).toArray = ls at hl ⊢
  have hl : lv_has ls 4 [(0, .ref x0), (1, .int (nI k)), (2, .int (nI 0))] := hl
  have hn6 := ok.1
  refine lv_aload_n hx hb dX4_of_0 rfl (lv_at hl 0 rfl) ?_
  refine lv_iload_n hx hb dX4_of_1 rfl (lv_at hl 1 rfl) ?_
  refine rr_callR (va_runV (As := [.int (nI k)]) (rest := []) ⟨hx, hb, hml, hown, hts⟩ (c_X4_isWheel l dC dI cI cJ cS x0 t0 k0 sa im b0 h3 hk hw hs hrs hpr hpd n h rg sp dr kn nx kf wf sf Kd Wd Sh Rr Pr Pd (nI k) (by first | assumption | omega)) (cwV 1 hts gX4_of_X4_isWheel rfl rfl rfl (by decide +kernel) ⟨Nat.le_of_ble_eq_true rfl, Nat.le_of_ble_eq_true rfl⟩) (rr_preV hKK hP rfl rfl) rfl rfl hl.1 rfl (lv_room (Nat.le_of_ble_eq_true rfl)) dX4_of_2 ⟨Nat.zero_le _, Nat.zero_le _⟩) ?_
  refine rr_top (y := bi true) (congrArg bi (inb_lt (by omega) (by omega))) ?_
  refine rb_if_ne (tgt := 10) hx hb dX4_of_5 (by decide) (fun c5 => ?_) (fun c5 => ?_)
  rotate_left
  · exact absurd c5 (by decide)
  refine lv_aload_n hx hb dX4_of_10 rfl (lv_at hl 0 rfl) ?_
  refine va_get (D := (dC, dI)) (ci := 4) (v := .ref b0) (C := RX4) (T := TX4) (N := 5) hx hb hts hiX4 hown hK hP 0 rfl rfl 1 (by decide) (hts (.fieldLink RX4 19 "RestRegisters" "now" "LRestRegisters$Bank;") (by decide +kernel)) (fun _ h9 => h9) rfl dX4_of_11 ?_
  refine va_get (D := (dC, dI)) (ci := 0) (v := .ref h3) (C := RX0) (T := TX0) (N := 7) hx hb hts hiX0 hown hK hP 1 rfl rfl 0 (by decide) (hts (.fieldLink RX4 61 "RestRegisters$Bank" "wheels" "LRestRegisters$Wheels;") (by decide +kernel)) (fun _ h9 => h9) rfl dX4_of_14 ?_
  refine lv_astore_n (lv' := [(3, .ref h3), (0, .ref x0), (1, .int (nI k)), (2, .int (nI 0))]) hx hb dX4_of_17 rfl hl (by decide) rfl (fun ls hl => ?_)
  refine lv_iload_n hx hb dX4_of_18 rfl (lv_at hl 3 rfl) ?_
  by_cases w19_0 : 0 = 0
  · refine rn_top w19_0 ?_
    refine lv_tableIn (off := 29) (tgt := 48) hx hb dX4_of_19 (by decide) (by decide) (by decide) (by decide) ?_
    refine lv_aload_n hx hb dX4_of_48 rfl (lv_at hl 0 rfl) ?_
    refine va_get (D := (dC, dI)) (ci := 3) (v := .ref hk) (C := RX3) (T := TX3) (N := 7) hx hb hts hiX3 hown hK hP 2 rfl rfl 4 (by decide) (hts (.fieldLink RX4 64 "RestRegisters$Wheels" "kinds" "[I") (by decide +kernel)) (fun _ h9 => h9) rfl dX4_of_49 ?_
    refine lv_iload_n hx hb dX4_of_52 rfl (lv_at hl 2 rfl) ?_
    refine rn_iald hx hb hK hP 3 0 rfl rfl (i := k) (by omega) (by decide) (v := (nI (Kd k))) (fk k (by omega)) dX4_of_53 ?_
    have hv53 := ok.2.1 k (by omega)
    exact rr_iret hx hb hr hlocks dX4_of_54 (rfl)
  by_cases w19_1 : 0 = 1
  · refine rn_top w19_1 ?_
    refine lv_tableIn (off := 36) (tgt := 55) hx hb dX4_of_19 (by decide) (by decide) (by decide) (by decide) ?_
    exact absurd w19_1 (by decide)
  by_cases w19_2 : 0 = 2
  · refine rn_top w19_2 ?_
    refine lv_tableIn (off := 43) (tgt := 62) hx hb dX4_of_19 (by decide) (by decide) (by decide) (by decide) ?_
    exact absurd w19_2 (by decide)
  by_cases w19_3 : 0 = 3
  · refine rn_top w19_3 ?_
    refine lv_tableIn (off := 57) (tgt := 76) hx hb dX4_of_19 (by decide) (by decide) (by decide) (by decide) ?_
    exact absurd w19_3 (by decide)
  refine lv_tableOut (tgt := 82) hx hb dX4_of_19 (sw_outN 0 3 (by omega) (by omega)) (by decide) ?_
  exact absurd rfl w19_0
set_option maxHeartbeats 4000000 in
set_option maxRecDepth 100000 in
theorem c_X4_of_1 (l : Launch) (dC : Nat → ClassId) (dI : Nat → Nat → Nat) (cI cJ cS : ClassId) (x0 t0 k0 sa : Nat) (im : Bool) (b0 h3 hk hw hs hrs hpr hpd : Nat) (n h rg sp dr kn nx : Nat) (kf wf sf : Nat → Int32) (Kd Wd Sh Rr Pr Pd : Nat → Nat) (k : Nat) (ok : wOk n Kd Wd) (fk : isA n kf Kd) (fw : isA n wf Wd) (hk2 : k < n) (hh : h ≤ n) : Met l yX4_of wsX4_of ({ frames := 6, cells := 0, slots := 0, locals := 139 }) (va_Pc [.ref x0, .int (nI k), .int (nI 1)] (rB (dC, dI) vwCl [(x0, .inr (4, [.ref t0, .ref b0, .ref k0, .int (bi im), .ref sa])), (b0, .inr (0, [.ref h3, .ref hrs, .int (nI dr), .int (nI kn), .int (nI nx), .ref hpr, .ref hpd])), (h3, .inr (3, [.int (nI n), .int (nI h), .int (nI rg), .int (nI sp), .ref hk, .ref hw, .ref hs])), (hk, .inl (cI, 6, .inl kf)), (hw, .inl (cI, 6, .inl wf)), (hs, .inl (cI, 6, .inl sf)), (hrs, .inl (cI, 24, .inl (nA Rr))), (hpr, .inl (cI, 192, .inl (nA Pr))), (hpd, .inl (cI, 8, .inl (nA Pd)))] (tyz cI cJ cS))) (QcRead (nI (Wd k))) 0 0 (fun _ => False) := by
  refine Met.ofW (cc := cX4_of) (maxL := 4) (ret := (some .int)) (by decide) rfl ?_
  intro p e s m args below meth c s₁ B hml hv
  obtain ⟨rfl, hP, hKK⟩ := hv
  have hK := hKK.1
  have hx := B.exec
  have hb := B.bytes
  have hr := B.returns
  have hts := atoms_spec (ws := wsX4_of) B.pre
  have hown : s.vm.findClass RX4 = some m.cls := findClass_of_methodNamed B.named
  have hlocks := B.notSynchronized
  have hiX0 : ∀ w ∈ wsX00, w ∈ wsX4_of := by decide +kernel
  have hiX3 : ∀ w ∈ wsX30, w ∈ wsX4_of := by decide +kernel
  have hiX4 : ∀ w ∈ wsX40, w ∈ wsX4_of := by decide +kernel
  have hl := lv_entry ([.ref x0, .int (nI k), .int (nI 1)]) (n := 4) (Nat.le_of_ble_eq_true rfl)
  rw [lg_entry_eq]
  generalize (lg_sl ([.ref x0, .int (nI k), .int (nI 1)]) ++ List.replicate (4 - (lg_sl ([.ref x0, .int (nI k), .int (nI 1)])).length) Slot.unset).toArray = ls at hl ⊢
  have hl : lv_has ls 4 [(0, .ref x0), (1, .int (nI k)), (2, .int (nI 1))] := hl
  have hn6 := ok.1
  refine lv_aload_n hx hb dX4_of_0 rfl (lv_at hl 0 rfl) ?_
  refine lv_iload_n hx hb dX4_of_1 rfl (lv_at hl 1 rfl) ?_
  refine rr_callR (va_runV (As := [.int (nI k)]) (rest := []) ⟨hx, hb, hml, hown, hts⟩ (c_X4_isWheel l dC dI cI cJ cS x0 t0 k0 sa im b0 h3 hk hw hs hrs hpr hpd n h rg sp dr kn nx kf wf sf Kd Wd Sh Rr Pr Pd (nI k) (by first | assumption | omega)) (cwV 1 hts gX4_of_X4_isWheel rfl rfl rfl (by decide +kernel) ⟨Nat.le_of_ble_eq_true rfl, Nat.le_of_ble_eq_true rfl⟩) (rr_preV hKK hP rfl rfl) rfl rfl hl.1 rfl (lv_room (Nat.le_of_ble_eq_true rfl)) dX4_of_2 ⟨Nat.zero_le _, Nat.zero_le _⟩) ?_
  refine rr_top (y := bi true) (congrArg bi (inb_lt (by omega) (by omega))) ?_
  refine rb_if_ne (tgt := 10) hx hb dX4_of_5 (by decide) (fun c5 => ?_) (fun c5 => ?_)
  rotate_left
  · exact absurd c5 (by decide)
  refine lv_aload_n hx hb dX4_of_10 rfl (lv_at hl 0 rfl) ?_
  refine va_get (D := (dC, dI)) (ci := 4) (v := .ref b0) (C := RX4) (T := TX4) (N := 5) hx hb hts hiX4 hown hK hP 0 rfl rfl 1 (by decide) (hts (.fieldLink RX4 19 "RestRegisters" "now" "LRestRegisters$Bank;") (by decide +kernel)) (fun _ h9 => h9) rfl dX4_of_11 ?_
  refine va_get (D := (dC, dI)) (ci := 0) (v := .ref h3) (C := RX0) (T := TX0) (N := 7) hx hb hts hiX0 hown hK hP 1 rfl rfl 0 (by decide) (hts (.fieldLink RX4 61 "RestRegisters$Bank" "wheels" "LRestRegisters$Wheels;") (by decide +kernel)) (fun _ h9 => h9) rfl dX4_of_14 ?_
  refine lv_astore_n (lv' := [(3, .ref h3), (0, .ref x0), (1, .int (nI k)), (2, .int (nI 1))]) hx hb dX4_of_17 rfl hl (by decide) rfl (fun ls hl => ?_)
  refine lv_iload_n hx hb dX4_of_18 rfl (lv_at hl 3 rfl) ?_
  by_cases w19_0 : 1 = 0
  · refine rn_top w19_0 ?_
    refine lv_tableIn (off := 29) (tgt := 48) hx hb dX4_of_19 (by decide) (by decide) (by decide) (by decide) ?_
    exact absurd w19_0 (by decide)
  by_cases w19_1 : 1 = 1
  · refine rn_top w19_1 ?_
    refine lv_tableIn (off := 36) (tgt := 55) hx hb dX4_of_19 (by decide) (by decide) (by decide) (by decide) ?_
    refine lv_aload_n hx hb dX4_of_55 rfl (lv_at hl 0 rfl) ?_
    refine va_get (D := (dC, dI)) (ci := 3) (v := .ref hw) (C := RX3) (T := TX3) (N := 7) hx hb hts hiX3 hown hK hP 2 rfl rfl 5 (by decide) (hts (.fieldLink RX4 70 "RestRegisters$Wheels" "widths" "[I") (by decide +kernel)) (fun _ h9 => h9) rfl dX4_of_56 ?_
    refine lv_iload_n hx hb dX4_of_59 rfl (lv_at hl 2 rfl) ?_
    refine rn_iald hx hb hK hP 4 0 rfl rfl (i := k) (by omega) (by decide) (v := (nI (Wd k))) (fw k (by omega)) dX4_of_60 ?_
    have hv60 := ok.2.2.1 k (by omega)
    exact rr_iret hx hb hr hlocks dX4_of_61 (rfl)
  by_cases w19_2 : 1 = 2
  · refine rn_top w19_2 ?_
    refine lv_tableIn (off := 43) (tgt := 62) hx hb dX4_of_19 (by decide) (by decide) (by decide) (by decide) ?_
    exact absurd w19_2 (by decide)
  by_cases w19_3 : 1 = 3
  · refine rn_top w19_3 ?_
    refine lv_tableIn (off := 57) (tgt := 76) hx hb dX4_of_19 (by decide) (by decide) (by decide) (by decide) ?_
    exact absurd w19_3 (by decide)
  refine lv_tableOut (tgt := 82) hx hb dX4_of_19 (sw_outN 0 3 (by omega) (by omega)) (by decide) ?_
  exact absurd rfl w19_1
set_option maxHeartbeats 4000000 in
set_option maxRecDepth 100000 in
theorem c_X4_of_2 (l : Launch) (dC : Nat → ClassId) (dI : Nat → Nat → Nat) (cI cJ cS : ClassId) (x0 t0 k0 sa : Nat) (im : Bool) (b0 h3 hk hw hs hrs hpr hpd : Nat) (n h rg sp dr kn nx : Nat) (kf wf sf : Nat → Int32) (Kd Wd Sh Rr Pr Pd : Nat → Nat) (k : Nat) (ok : wOk n Kd Wd) (fk : isA n kf Kd) (fw : isA n wf Wd) (hk2 : k < n) (hh : h ≤ n) : Met l yX4_of wsX4_of ({ frames := 6, cells := 0, slots := 0, locals := 139 }) (va_Pc [.ref x0, .int (nI k), .int (nI 2)] (rB (dC, dI) vwCl [(x0, .inr (4, [.ref t0, .ref b0, .ref k0, .int (bi im), .ref sa])), (b0, .inr (0, [.ref h3, .ref hrs, .int (nI dr), .int (nI kn), .int (nI nx), .ref hpr, .ref hpd])), (h3, .inr (3, [.int (nI n), .int (nI h), .int (nI rg), .int (nI sp), .ref hk, .ref hw, .ref hs])), (hk, .inl (cI, 6, .inl kf)), (hw, .inl (cI, 6, .inl wf)), (hs, .inl (cI, 6, .inl sf)), (hrs, .inl (cI, 24, .inl (nA Rr))), (hpr, .inl (cI, 192, .inl (nA Pr))), (hpd, .inl (cI, 8, .inl (nA Pd)))] (tyz cI cJ cS))) (QcRead (nI (if k < h then 0 else 1))) 0 0 (fun _ => False) := by
  refine Met.ofW (cc := cX4_of) (maxL := 4) (ret := (some .int)) (by decide) rfl ?_
  intro p e s m args below meth c s₁ B hml hv
  obtain ⟨rfl, hP, hKK⟩ := hv
  have hK := hKK.1
  have hx := B.exec
  have hb := B.bytes
  have hr := B.returns
  have hts := atoms_spec (ws := wsX4_of) B.pre
  have hown : s.vm.findClass RX4 = some m.cls := findClass_of_methodNamed B.named
  have hlocks := B.notSynchronized
  have hiX0 : ∀ w ∈ wsX00, w ∈ wsX4_of := by decide +kernel
  have hiX3 : ∀ w ∈ wsX30, w ∈ wsX4_of := by decide +kernel
  have hiX4 : ∀ w ∈ wsX40, w ∈ wsX4_of := by decide +kernel
  have hl := lv_entry ([.ref x0, .int (nI k), .int (nI 2)]) (n := 4) (Nat.le_of_ble_eq_true rfl)
  rw [lg_entry_eq]
  generalize (lg_sl ([.ref x0, .int (nI k), .int (nI 2)]) ++ List.replicate (4 - (lg_sl ([.ref x0, .int (nI k), .int (nI 2)])).length) Slot.unset).toArray = ls at hl ⊢
  have hl : lv_has ls 4 [(0, .ref x0), (1, .int (nI k)), (2, .int (nI 2))] := hl
  have hn6 := ok.1
  refine lv_aload_n hx hb dX4_of_0 rfl (lv_at hl 0 rfl) ?_
  refine lv_iload_n hx hb dX4_of_1 rfl (lv_at hl 1 rfl) ?_
  refine rr_callR (va_runV (As := [.int (nI k)]) (rest := []) ⟨hx, hb, hml, hown, hts⟩ (c_X4_isWheel l dC dI cI cJ cS x0 t0 k0 sa im b0 h3 hk hw hs hrs hpr hpd n h rg sp dr kn nx kf wf sf Kd Wd Sh Rr Pr Pd (nI k) (by first | assumption | omega)) (cwV 1 hts gX4_of_X4_isWheel rfl rfl rfl (by decide +kernel) ⟨Nat.le_of_ble_eq_true rfl, Nat.le_of_ble_eq_true rfl⟩) (rr_preV hKK hP rfl rfl) rfl rfl hl.1 rfl (lv_room (Nat.le_of_ble_eq_true rfl)) dX4_of_2 ⟨Nat.zero_le _, Nat.zero_le _⟩) ?_
  refine rr_top (y := bi true) (congrArg bi (inb_lt (by omega) (by omega))) ?_
  refine rb_if_ne (tgt := 10) hx hb dX4_of_5 (by decide) (fun c5 => ?_) (fun c5 => ?_)
  rotate_left
  · exact absurd c5 (by decide)
  refine lv_aload_n hx hb dX4_of_10 rfl (lv_at hl 0 rfl) ?_
  refine va_get (D := (dC, dI)) (ci := 4) (v := .ref b0) (C := RX4) (T := TX4) (N := 5) hx hb hts hiX4 hown hK hP 0 rfl rfl 1 (by decide) (hts (.fieldLink RX4 19 "RestRegisters" "now" "LRestRegisters$Bank;") (by decide +kernel)) (fun _ h9 => h9) rfl dX4_of_11 ?_
  refine va_get (D := (dC, dI)) (ci := 0) (v := .ref h3) (C := RX0) (T := TX0) (N := 7) hx hb hts hiX0 hown hK hP 1 rfl rfl 0 (by decide) (hts (.fieldLink RX4 61 "RestRegisters$Bank" "wheels" "LRestRegisters$Wheels;") (by decide +kernel)) (fun _ h9 => h9) rfl dX4_of_14 ?_
  refine lv_astore_n (lv' := [(3, .ref h3), (0, .ref x0), (1, .int (nI k)), (2, .int (nI 2))]) hx hb dX4_of_17 rfl hl (by decide) rfl (fun ls hl => ?_)
  refine lv_iload_n hx hb dX4_of_18 rfl (lv_at hl 3 rfl) ?_
  by_cases w19_0 : 2 = 0
  · refine rn_top w19_0 ?_
    refine lv_tableIn (off := 29) (tgt := 48) hx hb dX4_of_19 (by decide) (by decide) (by decide) (by decide) ?_
    exact absurd w19_0 (by decide)
  by_cases w19_1 : 2 = 1
  · refine rn_top w19_1 ?_
    refine lv_tableIn (off := 36) (tgt := 55) hx hb dX4_of_19 (by decide) (by decide) (by decide) (by decide) ?_
    exact absurd w19_1 (by decide)
  by_cases w19_2 : 2 = 2
  · refine rn_top w19_2 ?_
    refine lv_tableIn (off := 43) (tgt := 62) hx hb dX4_of_19 (by decide) (by decide) (by decide) (by decide) ?_
    refine lv_iload_n hx hb dX4_of_62 rfl (lv_at hl 2 rfl) ?_
    refine lv_aload_n hx hb dX4_of_63 rfl (lv_at hl 0 rfl) ?_
    refine va_get (D := (dC, dI)) (ci := 3) (v := .int (nI h)) (C := RX3) (T := TX3) (N := 7) hx hb hts hiX3 hown hK hP 2 rfl rfl 1 (by decide) (hts (.fieldLink RX4 73 "RestRegisters$Wheels" "honest" "I") (by decide +kernel)) (fun _ h9 => h9) rfl dX4_of_64 ?_
    refine rn_icmp_lt (tgt := 74) hx hb dX4_of_67 (by decide) (by omega) (by omega) (fun c67 => ?_) (fun c67 => ?_)
    · skip
      refine lv_iconst (v := (nI 0)) hx hb dX4_of_74 (by decide) ?_
      exact rr_iret hx hb hr hlocks dX4_of_75 (by first | (rw [if_pos c67]; done) | (rw [if_neg (Nat.not_lt.mpr c67)]))
    refine lv_iconst (v := (nI 1)) hx hb dX4_of_70 (by decide) ?_
    refine lv_goto (tgt := 75) hx hb dX4_of_71 (by decide) ?_
    exact rr_iret hx hb hr hlocks dX4_of_75 (by first | (rw [if_pos c67]; done) | (rw [if_neg (Nat.not_lt.mpr c67)]))
  by_cases w19_3 : 2 = 3
  · refine rn_top w19_3 ?_
    refine lv_tableIn (off := 57) (tgt := 76) hx hb dX4_of_19 (by decide) (by decide) (by decide) (by decide) ?_
    exact absurd w19_3 (by decide)
  refine lv_tableOut (tgt := 82) hx hb dX4_of_19 (sw_outN 0 3 (by omega) (by omega)) (by decide) ?_
  exact absurd rfl w19_2
set_option maxHeartbeats 4000000 in
set_option maxRecDepth 100000 in
theorem c_X4_of_3 (l : Launch) (dC : Nat → ClassId) (dI : Nat → Nat → Nat) (cI cJ cS : ClassId) (x0 t0 k0 sa : Nat) (im : Bool) (b0 h3 hk hw hs hrs hpr hpd : Nat) (n h rg sp dr kn nx : Nat) (kf wf sf : Nat → Int32) (Kd Wd Sh Rr Pr Pd : Nat → Nat) (k : Nat) (ok : wOk n Kd Wd) (fk : isA n kf Kd) (fw : isA n wf Wd) (hk2 : k < n) (hh : h ≤ n) : Met l yX4_of wsX4_of ({ frames := 6, cells := 0, slots := 0, locals := 139 }) (va_Pc [.ref x0, .int (nI k), .int (nI 3)] (rB (dC, dI) vwCl [(x0, .inr (4, [.ref t0, .ref b0, .ref k0, .int (bi im), .ref sa])), (b0, .inr (0, [.ref h3, .ref hrs, .int (nI dr), .int (nI kn), .int (nI nx), .ref hpr, .ref hpd])), (h3, .inr (3, [.int (nI n), .int (nI h), .int (nI rg), .int (nI sp), .ref hk, .ref hw, .ref hs])), (hk, .inl (cI, 6, .inl kf)), (hw, .inl (cI, 6, .inl wf)), (hs, .inl (cI, 6, .inl sf)), (hrs, .inl (cI, 24, .inl (nA Rr))), (hpr, .inl (cI, 192, .inl (nA Pr))), (hpd, .inl (cI, 8, .inl (nA Pd)))] (tyz cI cJ cS))) (QcRead (nI (wrS (Kd k) (Wd k) (Wd k)))) 0 0 (fun _ => False) := by
  refine Met.ofW (cc := cX4_of) (maxL := 4) (ret := (some .int)) (by decide) rfl ?_
  intro p e s m args below meth c s₁ B hml hv
  obtain ⟨rfl, hP, hKK⟩ := hv
  have hK := hKK.1
  have hx := B.exec
  have hb := B.bytes
  have hr := B.returns
  have hts := atoms_spec (ws := wsX4_of) B.pre
  have hown : s.vm.findClass RX4 = some m.cls := findClass_of_methodNamed B.named
  have hlocks := B.notSynchronized
  have hiX0 : ∀ w ∈ wsX00, w ∈ wsX4_of := by decide +kernel
  have hiX3 : ∀ w ∈ wsX30, w ∈ wsX4_of := by decide +kernel
  have hiX4 : ∀ w ∈ wsX40, w ∈ wsX4_of := by decide +kernel
  have hl := lv_entry ([.ref x0, .int (nI k), .int (nI 3)]) (n := 4) (Nat.le_of_ble_eq_true rfl)
  rw [lg_entry_eq]
  generalize (lg_sl ([.ref x0, .int (nI k), .int (nI 3)]) ++ List.replicate (4 - (lg_sl ([.ref x0, .int (nI k), .int (nI 3)])).length) Slot.unset).toArray = ls at hl ⊢
  have hl : lv_has ls 4 [(0, .ref x0), (1, .int (nI k)), (2, .int (nI 3))] := hl
  have hn6 := ok.1
  refine lv_aload_n hx hb dX4_of_0 rfl (lv_at hl 0 rfl) ?_
  refine lv_iload_n hx hb dX4_of_1 rfl (lv_at hl 1 rfl) ?_
  refine rr_callR (va_runV (As := [.int (nI k)]) (rest := []) ⟨hx, hb, hml, hown, hts⟩ (c_X4_isWheel l dC dI cI cJ cS x0 t0 k0 sa im b0 h3 hk hw hs hrs hpr hpd n h rg sp dr kn nx kf wf sf Kd Wd Sh Rr Pr Pd (nI k) (by first | assumption | omega)) (cwV 1 hts gX4_of_X4_isWheel rfl rfl rfl (by decide +kernel) ⟨Nat.le_of_ble_eq_true rfl, Nat.le_of_ble_eq_true rfl⟩) (rr_preV hKK hP rfl rfl) rfl rfl hl.1 rfl (lv_room (Nat.le_of_ble_eq_true rfl)) dX4_of_2 ⟨Nat.zero_le _, Nat.zero_le _⟩) ?_
  refine rr_top (y := bi true) (congrArg bi (inb_lt (by omega) (by omega))) ?_
  refine rb_if_ne (tgt := 10) hx hb dX4_of_5 (by decide) (fun c5 => ?_) (fun c5 => ?_)
  rotate_left
  · exact absurd c5 (by decide)
  refine lv_aload_n hx hb dX4_of_10 rfl (lv_at hl 0 rfl) ?_
  refine va_get (D := (dC, dI)) (ci := 4) (v := .ref b0) (C := RX4) (T := TX4) (N := 5) hx hb hts hiX4 hown hK hP 0 rfl rfl 1 (by decide) (hts (.fieldLink RX4 19 "RestRegisters" "now" "LRestRegisters$Bank;") (by decide +kernel)) (fun _ h9 => h9) rfl dX4_of_11 ?_
  refine va_get (D := (dC, dI)) (ci := 0) (v := .ref h3) (C := RX0) (T := TX0) (N := 7) hx hb hts hiX0 hown hK hP 1 rfl rfl 0 (by decide) (hts (.fieldLink RX4 61 "RestRegisters$Bank" "wheels" "LRestRegisters$Wheels;") (by decide +kernel)) (fun _ h9 => h9) rfl dX4_of_14 ?_
  refine lv_astore_n (lv' := [(3, .ref h3), (0, .ref x0), (1, .int (nI k)), (2, .int (nI 3))]) hx hb dX4_of_17 rfl hl (by decide) rfl (fun ls hl => ?_)
  refine lv_iload_n hx hb dX4_of_18 rfl (lv_at hl 3 rfl) ?_
  by_cases w19_0 : 3 = 0
  · refine rn_top w19_0 ?_
    refine lv_tableIn (off := 29) (tgt := 48) hx hb dX4_of_19 (by decide) (by decide) (by decide) (by decide) ?_
    exact absurd w19_0 (by decide)
  by_cases w19_1 : 3 = 1
  · refine rn_top w19_1 ?_
    refine lv_tableIn (off := 36) (tgt := 55) hx hb dX4_of_19 (by decide) (by decide) (by decide) (by decide) ?_
    exact absurd w19_1 (by decide)
  by_cases w19_2 : 3 = 2
  · refine rn_top w19_2 ?_
    refine lv_tableIn (off := 43) (tgt := 62) hx hb dX4_of_19 (by decide) (by decide) (by decide) (by decide) ?_
    exact absurd w19_2 (by decide)
  by_cases w19_3 : 3 = 3
  · refine rn_top w19_3 ?_
    refine lv_tableIn (off := 57) (tgt := 76) hx hb dX4_of_19 (by decide) (by decide) (by decide) (by decide) ?_
    refine lv_aload_n hx hb dX4_of_76 rfl (lv_at hl 0 rfl) ?_
    refine lv_iload_n hx hb dX4_of_77 rfl (lv_at hl 2 rfl) ?_
    refine rr_callR (va_runV (As := [.int (nI k)]) (rest := []) ⟨hx, hb, hml, hown, hts⟩ (c_X3_wrongSums l dC dI cI cJ cS h3 hk hw hs n h rg sp kf wf sf Kd Wd Sh k (by first | assumption | omega) (by first | assumption | omega) (by first | assumption | omega) (by first | assumption | omega)) (cwV 1 hts gX4_of_X3_wrongSums rfl rfl rfl (by decide +kernel) ⟨Nat.le_of_ble_eq_true rfl, Nat.le_of_ble_eq_true rfl⟩) (rr_preV hKK (hP.sub [2, 3, 4, 5] rfl) rfl rfl) rfl rfl hl.1 rfl (lv_room (Nat.le_of_ble_eq_true rfl)) dX4_of_78 ⟨Nat.zero_le _, Nat.zero_le _⟩) ?_
    exact rr_iret hx hb hr hlocks dX4_of_81 (rfl)
  refine lv_tableOut (tgt := 82) hx hb dX4_of_19 (sw_outN 0 3 (by omega) (by omega)) (by decide) ?_
  exact absurd rfl w19_3
set_option maxHeartbeats 4000000 in
set_option maxRecDepth 100000 in
theorem c_X4_of_b (l : Launch) (dC : Nat → ClassId) (dI : Nat → Nat → Nat) (cI cJ cS : ClassId) (x0 t0 k0 sa : Nat) (im : Bool) (b0 h3 hk hw hs hrs hpr hpd : Nat) (n h rg sp dr kn nx : Nat) (kf wf sf : Nat → Int32) (Kd Wd Sh Rr Pr Pd : Nat → Nat) (x y : Int32) (ok : wOk n Kd Wd) (fw : isA n wf Wd) (hbad : (inb x n && inb y 4) = false) : Met l yX4_of wsX4_of ({ frames := 6, cells := 0, slots := 0, locals := 139 }) (va_Pc [.ref x0, .int x, .int y] (rB (dC, dI) vwCl [(x0, .inr (4, [.ref t0, .ref b0, .ref k0, .int (bi im), .ref sa])), (b0, .inr (0, [.ref h3, .ref hrs, .int (nI dr), .int (nI kn), .int (nI nx), .ref hpr, .ref hpd])), (h3, .inr (3, [.int (nI n), .int (nI h), .int (nI rg), .int (nI sp), .ref hk, .ref hw, .ref hs])), (hk, .inl (cI, 6, .inl kf)), (hw, .inl (cI, 6, .inl wf)), (hs, .inl (cI, 6, .inl sf)), (hrs, .inl (cI, 24, .inl (nA Rr))), (hpr, .inl (cI, 192, .inl (nA Pr))), (hpd, .inl (cI, 8, .inl (nA Pd)))] (tyz cI cJ cS))) (QcRead (-1)) 0 0 (fun _ => False) := by
  refine Met.ofW (cc := cX4_of) (maxL := 4) (ret := (some .int)) (by decide) rfl ?_
  intro p e s m args below meth c s₁ B hml hv
  obtain ⟨rfl, hP, hKK⟩ := hv
  have hK := hKK.1
  have hx := B.exec
  have hb := B.bytes
  have hr := B.returns
  have hts := atoms_spec (ws := wsX4_of) B.pre
  have hown : s.vm.findClass RX4 = some m.cls := findClass_of_methodNamed B.named
  have hlocks := B.notSynchronized
  have hiX0 : ∀ w ∈ wsX00, w ∈ wsX4_of := by decide +kernel
  have hiX3 : ∀ w ∈ wsX30, w ∈ wsX4_of := by decide +kernel
  have hiX4 : ∀ w ∈ wsX40, w ∈ wsX4_of := by decide +kernel
  have hl := lv_entry ([.ref x0, .int x, .int y]) (n := 4) (Nat.le_of_ble_eq_true rfl)
  rw [lg_entry_eq]
  generalize (lg_sl ([.ref x0, .int x, .int y]) ++ List.replicate (4 - (lg_sl ([.ref x0, .int x, .int y])).length) Slot.unset).toArray = ls at hl ⊢
  have hl : lv_has ls 4 [(0, .ref x0), (1, .int x), (2, .int y)] := hl
  have hn6 := ok.1
  refine lv_aload_n hx hb dX4_of_0 rfl (lv_at hl 0 rfl) ?_
  refine lv_iload_n hx hb dX4_of_1 rfl (lv_at hl 1 rfl) ?_
  refine rr_callR (va_runV (As := [.int x]) (rest := []) ⟨hx, hb, hml, hown, hts⟩ (c_X4_isWheel l dC dI cI cJ cS x0 t0 k0 sa im b0 h3 hk hw hs hrs hpr hpd n h rg sp dr kn nx kf wf sf Kd Wd Sh Rr Pr Pd x (by first | assumption | omega)) (cwV 1 hts gX4_of_X4_isWheel rfl rfl rfl (by decide +kernel) ⟨Nat.le_of_ble_eq_true rfl, Nat.le_of_ble_eq_true rfl⟩) (rr_preV hKK hP rfl rfl) rfl rfl hl.1 rfl (lv_room (Nat.le_of_ble_eq_true rfl)) dX4_of_2 ⟨Nat.zero_le _, Nat.zero_le _⟩) ?_
  refine rb_if_ne (tgt := 10) hx hb dX4_of_5 (by decide) (fun c5 => ?_) (fun c5 => ?_)
  · skip
    refine lv_aload_n hx hb dX4_of_10 rfl (lv_at hl 0 rfl) ?_
    refine va_get (D := (dC, dI)) (ci := 4) (v := .ref b0) (C := RX4) (T := TX4) (N := 5) hx hb hts hiX4 hown hK hP 0 rfl rfl 1 (by decide) (hts (.fieldLink RX4 19 "RestRegisters" "now" "LRestRegisters$Bank;") (by decide +kernel)) (fun _ h9 => h9) rfl dX4_of_11 ?_
    refine va_get (D := (dC, dI)) (ci := 0) (v := .ref h3) (C := RX0) (T := TX0) (N := 7) hx hb hts hiX0 hown hK hP 1 rfl rfl 0 (by decide) (hts (.fieldLink RX4 61 "RestRegisters$Bank" "wheels" "LRestRegisters$Wheels;") (by decide +kernel)) (fun _ h9 => h9) rfl dX4_of_14 ?_
    refine lv_astore_n (lv' := [(3, .ref h3), (0, .ref x0), (1, .int x), (2, .int y)]) hx hb dX4_of_17 rfl hl (by decide) rfl (fun ls hl => ?_)
    refine lv_iload_n hx hb dX4_of_18 rfl (lv_at hl 3 rfl) ?_
    by_cases w19_0 : y = nI 0
    · refine rr_top w19_0 ?_
      refine lv_tableIn (off := 29) (tgt := 48) hx hb dX4_of_19 (by decide) (by decide) (by decide) (by decide) ?_
      exact absurd hbad (by rw [c5, w19_0]; decide)
    by_cases w19_1 : y = nI 1
    · refine rr_top w19_1 ?_
      refine lv_tableIn (off := 36) (tgt := 55) hx hb dX4_of_19 (by decide) (by decide) (by decide) (by decide) ?_
      exact absurd hbad (by rw [c5, w19_1]; decide)
    by_cases w19_2 : y = nI 2
    · refine rr_top w19_2 ?_
      refine lv_tableIn (off := 43) (tgt := 62) hx hb dX4_of_19 (by decide) (by decide) (by decide) (by decide) ?_
      exact absurd hbad (by rw [c5, w19_2]; decide)
    by_cases w19_3 : y = nI 3
    · refine rr_top w19_3 ?_
      refine lv_tableIn (off := 57) (tgt := 76) hx hb dX4_of_19 (by decide) (by decide) (by decide) (by decide) ?_
      exact absurd hbad (by rw [c5, w19_3]; decide)
    refine lv_tableOut (tgt := 82) hx hb dX4_of_19 (sw_out 0 3 (fun k h1 h2 => by rcases (show k = 0 ∨ k = 1 ∨ k = 2 ∨ k = 3 by omega) with rfl | rfl | rfl | rfl <;> assumption)) (by decide) ?_
    refine lv_iconst (v := (-1)) hx hb dX4_of_82 (by decide) ?_
    exact rr_iret hx hb hr hlocks dX4_of_83 (rfl)
  refine lv_iconst (v := (-1)) hx hb dX4_of_8 (by decide) ?_
  exact rr_iret hx hb hr hlocks dX4_of_9 (rfl)
set_option maxHeartbeats 4000000 in
set_option maxRecDepth 100000 in
theorem c_X4_rest_g (l : Launch) (dC : Nat → ClassId) (dI : Nat → Nat → Nat) (cI cJ cS : ClassId) (x0 t0 k0 sa : Nat) (im : Bool) (b0 h3 hk hw hs hrs hpr hpd : Nat) (n h rg sp dr kn nx : Nat) (kf wf sf : Nat → Int32) (Kd Wd Sh Rr Pr Pd : Nat → Nat) (r k : Nat) (ok : wOk n Kd Wd) (hr4 : r < 4) (hk2 : k < n) : Met l yX4_rest wsX4_rest ({ frames := 2, cells := 0, slots := 0, locals := 42 }) (va_Pc [.ref x0, .int (nI r), .int (nI k)] (rB (dC, dI) vwCl [(x0, .inr (4, [.ref t0, .ref b0, .ref k0, .int (bi im), .ref sa])), (b0, .inr (0, [.ref h3, .ref hrs, .int (nI dr), .int (nI kn), .int (nI nx), .ref hpr, .ref hpd])), (h3, .inr (3, [.int (nI n), .int (nI h), .int (nI rg), .int (nI sp), .ref hk, .ref hw, .ref hs])), (hk, .inl (cI, 6, .inl kf)), (hw, .inl (cI, 6, .inl wf)), (hs, .inl (cI, 6, .inl sf)), (hrs, .inl (cI, 24, .inl (nA Rr))), (hpr, .inl (cI, 192, .inl (nA Pr))), (hpd, .inl (cI, 8, .inl (nA Pd)))] (tyz cI cJ cS))) (QcRead (nI (Rr (r * 6 + k)))) 0 0 (fun _ => False) := by
  refine Met.ofW (cc := cX4_rest) (maxL := 3) (ret := (some .int)) (by decide) rfl ?_
  intro p e s m args below meth c s₁ B hml hv
  obtain ⟨rfl, hP, hKK⟩ := hv
  have hK := hKK.1
  have hx := B.exec
  have hb := B.bytes
  have hr := B.returns
  have hts := atoms_spec (ws := wsX4_rest) B.pre
  have hown : s.vm.findClass RX4 = some m.cls := findClass_of_methodNamed B.named
  have hlocks := B.notSynchronized
  have hiX4 : ∀ w ∈ wsX40, w ∈ wsX4_rest := by decide +kernel
  have hl := lv_entry ([.ref x0, .int (nI r), .int (nI k)]) (n := 3) (Nat.le_of_ble_eq_true rfl)
  rw [lg_entry_eq]
  generalize (lg_sl ([.ref x0, .int (nI r), .int (nI k)]) ++ List.replicate (3 - (lg_sl ([.ref x0, .int (nI r), .int (nI k)])).length) Slot.unset).toArray = ls at hl ⊢
  have hl : lv_has ls 3 [(0, .ref x0), (1, .int (nI r)), (2, .int (nI k))] := hl
  have hn6 := ok.1
  refine lv_iload_n hx hb dX4_rest_0 rfl (lv_at hl 1 rfl) ?_
  refine rr_callR (va_runS (As := [.int (nI r)]) (rest := []) ⟨hx, hb, hml, hown, hts⟩ (c_X4_isRegister l (nI r) ) (va_cwS 1 hts gX4_rest_X4_isRegister rfl rfl rfl (by decide +kernel) ⟨Nat.le_of_ble_eq_true rfl, Nat.le_of_ble_eq_true rfl⟩) rr_preT rfl rfl hl.1 rfl (lv_room (Nat.le_of_ble_eq_true rfl)) dX4_rest_1 ⟨Nat.zero_le _, Nat.zero_le _⟩) ?_
  refine rr_top (y := bi true) (congrArg bi (inb_lt (by omega) (by omega))) ?_
  refine rb_if_eq (tgt := 27) hx hb dX4_rest_4 (by decide) (fun c4 => ?_) (fun c4 => ?_)
  · exact absurd c4 (by decide)
  refine lv_aload_n hx hb dX4_rest_7 rfl (lv_at hl 0 rfl) ?_
  refine lv_iload_n hx hb dX4_rest_8 rfl (lv_at hl 2 rfl) ?_
  refine rr_callR (va_runV (As := [.int (nI k)]) (rest := []) ⟨hx, hb, hml, hown, hts⟩ (c_X4_isWheel l dC dI cI cJ cS x0 t0 k0 sa im b0 h3 hk hw hs hrs hpr hpd n h rg sp dr kn nx kf wf sf Kd Wd Sh Rr Pr Pd (nI k) (by first | assumption | omega)) (cwV 1 hts gX4_rest_X4_isWheel rfl rfl rfl (by decide +kernel) ⟨Nat.le_of_ble_eq_true rfl, Nat.le_of_ble_eq_true rfl⟩) (rr_preV hKK hP rfl rfl) rfl rfl hl.1 rfl (lv_room (Nat.le_of_ble_eq_true rfl)) dX4_rest_9 ⟨Nat.zero_le _, Nat.zero_le _⟩) ?_
  refine rr_top (y := bi true) (congrArg bi (inb_lt (by omega) (by omega))) ?_
  refine rb_if_eq (tgt := 27) hx hb dX4_rest_12 (by decide) (fun c12 => ?_) (fun c12 => ?_)
  · exact absurd c12 (by decide)
  refine lv_aload_n hx hb dX4_rest_15 rfl (lv_at hl 0 rfl) ?_
  refine va_get (D := (dC, dI)) (ci := 4) (v := .ref b0) (C := RX4) (T := TX4) (N := 5) hx hb hts hiX4 hown hK hP 0 rfl rfl 1 (by decide) (hts (.fieldLink RX4 19 "RestRegisters" "now" "LRestRegisters$Bank;") (by decide +kernel)) (fun _ h9 => h9) rfl dX4_rest_16 ?_
  refine lv_iload_n hx hb dX4_rest_19 rfl (lv_at hl 1 rfl) ?_
  refine lv_iload_n hx hb dX4_rest_20 rfl (lv_at hl 2 rfl) ?_
  refine rr_callR (va_runV (As := [.int (nI r), .int (nI k)]) (rest := []) ⟨hx, hb, hml, hown, hts⟩ (c_X0_shown l dC dI cI cJ cS b0 h3 hrs hpr hpd dr kn nx Rr r k (by first | assumption | omega) (by first | assumption | omega)) (cwV 2 hts gX4_rest_X0_shown rfl rfl rfl (by decide +kernel) ⟨Nat.le_of_ble_eq_true rfl, Nat.le_of_ble_eq_true rfl⟩) (rr_preV hKK (hP.sub [1, 6] rfl) rfl rfl) rfl rfl hl.1 rfl (lv_room (Nat.le_of_ble_eq_true rfl)) dX4_rest_21 ⟨Nat.zero_le _, Nat.zero_le _⟩) ?_
  refine lv_goto (tgt := 28) hx hb dX4_rest_24 (by decide) ?_
  exact rr_iret hx hb hr hlocks dX4_rest_28 (rfl)
set_option maxHeartbeats 4000000 in
set_option maxRecDepth 100000 in
theorem c_X4_rest_b (l : Launch) (dC : Nat → ClassId) (dI : Nat → Nat → Nat) (cI cJ cS : ClassId) (x0 t0 k0 sa : Nat) (im : Bool) (b0 h3 hk hw hs hrs hpr hpd : Nat) (n h rg sp dr kn nx : Nat) (kf wf sf : Nat → Int32) (Kd Wd Sh Rr Pr Pd : Nat → Nat) (x y : Int32) (ok : wOk n Kd Wd) (fw : isA n wf Wd) (hbad : (inb x 4 && inb y n) = false) : Met l yX4_rest wsX4_rest ({ frames := 2, cells := 0, slots := 0, locals := 42 }) (va_Pc [.ref x0, .int x, .int y] (rB (dC, dI) vwCl [(x0, .inr (4, [.ref t0, .ref b0, .ref k0, .int (bi im), .ref sa])), (b0, .inr (0, [.ref h3, .ref hrs, .int (nI dr), .int (nI kn), .int (nI nx), .ref hpr, .ref hpd])), (h3, .inr (3, [.int (nI n), .int (nI h), .int (nI rg), .int (nI sp), .ref hk, .ref hw, .ref hs])), (hk, .inl (cI, 6, .inl kf)), (hw, .inl (cI, 6, .inl wf)), (hs, .inl (cI, 6, .inl sf)), (hrs, .inl (cI, 24, .inl (nA Rr))), (hpr, .inl (cI, 192, .inl (nA Pr))), (hpd, .inl (cI, 8, .inl (nA Pd)))] (tyz cI cJ cS))) (QcRead (-1)) 0 0 (fun _ => False) := by
  refine Met.ofW (cc := cX4_rest) (maxL := 3) (ret := (some .int)) (by decide) rfl ?_
  intro p e s m args below meth c s₁ B hml hv
  obtain ⟨rfl, hP, hKK⟩ := hv
  have hK := hKK.1
  have hx := B.exec
  have hb := B.bytes
  have hr := B.returns
  have hts := atoms_spec (ws := wsX4_rest) B.pre
  have hown : s.vm.findClass RX4 = some m.cls := findClass_of_methodNamed B.named
  have hlocks := B.notSynchronized
  have hiX4 : ∀ w ∈ wsX40, w ∈ wsX4_rest := by decide +kernel
  have hl := lv_entry ([.ref x0, .int x, .int y]) (n := 3) (Nat.le_of_ble_eq_true rfl)
  rw [lg_entry_eq]
  generalize (lg_sl ([.ref x0, .int x, .int y]) ++ List.replicate (3 - (lg_sl ([.ref x0, .int x, .int y])).length) Slot.unset).toArray = ls at hl ⊢
  have hl : lv_has ls 3 [(0, .ref x0), (1, .int x), (2, .int y)] := hl
  have hn6 := ok.1
  refine lv_iload_n hx hb dX4_rest_0 rfl (lv_at hl 1 rfl) ?_
  refine rr_callR (va_runS (As := [.int x]) (rest := []) ⟨hx, hb, hml, hown, hts⟩ (c_X4_isRegister l x ) (va_cwS 1 hts gX4_rest_X4_isRegister rfl rfl rfl (by decide +kernel) ⟨Nat.le_of_ble_eq_true rfl, Nat.le_of_ble_eq_true rfl⟩) rr_preT rfl rfl hl.1 rfl (lv_room (Nat.le_of_ble_eq_true rfl)) dX4_rest_1 ⟨Nat.zero_le _, Nat.zero_le _⟩) ?_
  refine rb_if_eq (tgt := 27) hx hb dX4_rest_4 (by decide) (fun c4 => ?_) (fun c4 => ?_)
  · skip
    refine lv_iconst (v := (-1)) hx hb dX4_rest_27 (by decide) ?_
    exact rr_iret hx hb hr hlocks dX4_rest_28 (rfl)
  refine lv_aload_n hx hb dX4_rest_7 rfl (lv_at hl 0 rfl) ?_
  refine lv_iload_n hx hb dX4_rest_8 rfl (lv_at hl 2 rfl) ?_
  refine rr_callR (va_runV (As := [.int y]) (rest := []) ⟨hx, hb, hml, hown, hts⟩ (c_X4_isWheel l dC dI cI cJ cS x0 t0 k0 sa im b0 h3 hk hw hs hrs hpr hpd n h rg sp dr kn nx kf wf sf Kd Wd Sh Rr Pr Pd y (by first | assumption | omega)) (cwV 1 hts gX4_rest_X4_isWheel rfl rfl rfl (by decide +kernel) ⟨Nat.le_of_ble_eq_true rfl, Nat.le_of_ble_eq_true rfl⟩) (rr_preV hKK hP rfl rfl) rfl rfl hl.1 rfl (lv_room (Nat.le_of_ble_eq_true rfl)) dX4_rest_9 ⟨Nat.zero_le _, Nat.zero_le _⟩) ?_
  refine rb_if_eq (tgt := 27) hx hb dX4_rest_12 (by decide) (fun c12 => ?_) (fun c12 => ?_)
  · skip
    refine lv_iconst (v := (-1)) hx hb dX4_rest_27 (by decide) ?_
    exact rr_iret hx hb hr hlocks dX4_rest_28 (rfl)
  exact absurd hbad (by rw [c4, c12]; decide)
set_option maxHeartbeats 4000000 in
set_option maxRecDepth 100000 in
theorem c_X4_at_0 (l : Launch) (dC : Nat → ClassId) (dI : Nat → Nat → Nat) (cI cJ cS : ClassId) (x0 t0 k0 sa : Nat) (im : Bool) (b0 h3 hk hw hs hrs hpr hpd : Nat) (n h rg sp dr kn nx : Nat) (kf wf sf : Nat → Int32) (Kd Wd Sh Rr Pr Pd : Nat → Nat) (r : Nat) (ok : wOk n Kd Wd) (fk : isA n kf Kd) (fw : isA n wf Wd) (fs : isA n sf Sh) (hS : ∀ j, j < n → Sh j < sp) (hsp : sp ≤ 47045881) (hsp0 : 0 < sp) (hR : rOk n Wd Rr) (hrg : rg < 2 ^ 31) (hr4 : r < 4) : Met l yX4_at wsX4_at ({ frames := 3, cells := 0, slots := 0, locals := 66 }) (va_Pc [.ref x0, .int (nI r), .int (nI 0)] (rB (dC, dI) vwCl [(x0, .inr (4, [.ref t0, .ref b0, .ref k0, .int (bi im), .ref sa])), (b0, .inr (0, [.ref h3, .ref hrs, .int (nI dr), .int (nI kn), .int (nI nx), .ref hpr, .ref hpd])), (h3, .inr (3, [.int (nI n), .int (nI h), .int (nI rg), .int (nI sp), .ref hk, .ref hw, .ref hs])), (hk, .inl (cI, 6, .inl kf)), (hw, .inl (cI, 6, .inl wf)), (hs, .inl (cI, 6, .inl sf)), (hrs, .inl (cI, 24, .inl (nA Rr))), (hpr, .inl (cI, 192, .inl (nA Pr))), (hpd, .inl (cI, 8, .inl (nA Pd)))] (tyz cI cJ cS))) (QcRead (nI (vR Sh Rr sp n r))) 0 0 (fun _ => False) := by
  refine Met.ofW (cc := cX4_at) (maxL := 3) (ret := (some .int)) (by decide) rfl ?_
  intro p e s m args below meth c s₁ B hml hv
  obtain ⟨rfl, hP, hKK⟩ := hv
  have hK := hKK.1
  have hx := B.exec
  have hb := B.bytes
  have hr := B.returns
  have hts := atoms_spec (ws := wsX4_at) B.pre
  have hown : s.vm.findClass RX4 = some m.cls := findClass_of_methodNamed B.named
  have hlocks := B.notSynchronized
  have hiX4 : ∀ w ∈ wsX40, w ∈ wsX4_at := by decide +kernel
  have hl := lv_entry ([.ref x0, .int (nI r), .int (nI 0)]) (n := 3) (Nat.le_of_ble_eq_true rfl)
  rw [lg_entry_eq]
  generalize (lg_sl ([.ref x0, .int (nI r), .int (nI 0)]) ++ List.replicate (3 - (lg_sl ([.ref x0, .int (nI r), .int (nI 0)])).length) Slot.unset).toArray = ls at hl ⊢
  have hl : lv_has ls 3 [(0, .ref x0), (1, .int (nI r)), (2, .int (nI 0))] := hl
  have hn6 := ok.1
  refine lv_iload_n hx hb dX4_at_0 rfl (lv_at hl 1 rfl) ?_
  refine rr_callR (va_runS (As := [.int (nI r)]) (rest := []) ⟨hx, hb, hml, hown, hts⟩ (c_X4_isRegister l (nI r) ) (va_cwS 1 hts gX4_at_X4_isRegister rfl rfl rfl (by decide +kernel) ⟨Nat.le_of_ble_eq_true rfl, Nat.le_of_ble_eq_true rfl⟩) rr_preT rfl rfl hl.1 rfl (lv_room (Nat.le_of_ble_eq_true rfl)) dX4_at_1 ⟨Nat.zero_le _, Nat.zero_le _⟩) ?_
  refine rr_top (y := bi true) (congrArg bi (inb_lt (by omega) (by omega))) ?_
  refine rb_if_eq (tgt := 15) hx hb dX4_at_4 (by decide) (fun c4 => ?_) (fun c4 => ?_)
  · exact absurd c4 (by decide)
  refine lv_iload_n hx hb dX4_at_7 rfl (lv_at hl 2 rfl) ?_
  refine lv_iconst (v := (nI 2)) hx hb dX4_at_8 (by decide) ?_
  refine rr_callR (va_runS (As := [.int (nI 0), .int (nI 2)]) (rest := []) ⟨hx, hb, hml, hown, hts⟩ (c_X4_isBelow l (nI 0) 2 (by first | assumption | omega)) (va_cwS 2 hts gX4_at_X4_isBelow rfl rfl rfl (by decide +kernel) ⟨Nat.le_of_ble_eq_true rfl, Nat.le_of_ble_eq_true rfl⟩) rr_preT rfl rfl hl.1 rfl (lv_room (Nat.le_of_ble_eq_true rfl)) dX4_at_9 ⟨Nat.zero_le _, Nat.zero_le _⟩) ?_
  refine rr_top (y := bi true) (congrArg bi (inb_lt (by omega) (by omega))) ?_
  refine rb_if_ne (tgt := 17) hx hb dX4_at_12 (by decide) (fun c12 => ?_) (fun c12 => ?_)
  rotate_left
  · exact absurd c12 (by decide)
  refine lv_iload_n hx hb dX4_at_17 rfl (lv_at hl 2 rfl) ?_
  refine rn_if_ne (tgt := 30) hx hb dX4_at_18 (by decide) (by omega) (fun c18 => ?_) (fun c18 => ?_)
  · skip
    exact absurd rfl c18
  refine lv_aload_n hx hb dX4_at_21 rfl (lv_at hl 0 rfl) ?_
  refine va_get (D := (dC, dI)) (ci := 4) (v := .ref b0) (C := RX4) (T := TX4) (N := 5) hx hb hts hiX4 hown hK hP 0 rfl rfl 1 (by decide) (hts (.fieldLink RX4 19 "RestRegisters" "now" "LRestRegisters$Bank;") (by decide +kernel)) (fun _ h9 => h9) rfl dX4_at_22 ?_
  refine lv_iload_n hx hb dX4_at_25 rfl (lv_at hl 1 rfl) ?_
  refine rr_callR (va_runV (As := [.int (nI r)]) (rest := []) ⟨hx, hb, hml, hown, hts⟩ (c_X0_value l dC dI cI cJ cS b0 h3 hk hw hs hrs hpr hpd n h rg sp dr kn nx kf wf sf Kd Wd Sh Rr Pr Pd r (by first | assumption | omega) (by first | assumption | omega) (by first | assumption | omega) (by first | assumption | omega) (by first | assumption | omega) (by first | assumption | omega) (by first | assumption | omega)) (cwV 1 hts gX4_at_X0_value rfl rfl rfl (by decide +kernel) ⟨Nat.le_of_ble_eq_true rfl, Nat.le_of_ble_eq_true rfl⟩) (rr_preV hKK (hP.sub [1, 2, 3, 4, 5, 6, 7, 8] rfl) rfl rfl) rfl rfl hl.1 rfl (lv_room (Nat.le_of_ble_eq_true rfl)) dX4_at_26 ⟨Nat.zero_le _, Nat.zero_le _⟩) ?_
  exact rr_iret hx hb hr hlocks dX4_at_29 (rfl)
set_option maxHeartbeats 4000000 in
set_option maxRecDepth 100000 in
theorem c_X4_at_1 (l : Launch) (dC : Nat → ClassId) (dI : Nat → Nat → Nat) (cI cJ cS : ClassId) (x0 t0 k0 sa : Nat) (im : Bool) (b0 h3 hk hw hs hrs hpr hpd : Nat) (n h rg sp dr kn nx : Nat) (kf wf sf : Nat → Int32) (Kd Wd Sh Rr Pr Pd : Nat → Nat) (r : Nat) (ok : wOk n Kd Wd) (fk : isA n kf Kd) (fw : isA n wf Wd) (fs : isA n sf Sh) (hS : ∀ j, j < n → Sh j < sp) (hsp : sp ≤ 47045881) (hsp0 : 0 < sp) (hR : rOk n Wd Rr) (hrg : rg < 2 ^ 31) (hr4 : r < 4) : Met l yX4_at wsX4_at ({ frames := 3, cells := 0, slots := 0, locals := 66 }) (va_Pc [.ref x0, .int (nI r), .int (nI 1)] (rB (dC, dI) vwCl [(x0, .inr (4, [.ref t0, .ref b0, .ref k0, .int (bi im), .ref sa])), (b0, .inr (0, [.ref h3, .ref hrs, .int (nI dr), .int (nI kn), .int (nI nx), .ref hpr, .ref hpd])), (h3, .inr (3, [.int (nI n), .int (nI h), .int (nI rg), .int (nI sp), .ref hk, .ref hw, .ref hs])), (hk, .inl (cI, 6, .inl kf)), (hw, .inl (cI, 6, .inl wf)), (hs, .inl (cI, 6, .inl sf)), (hrs, .inl (cI, 24, .inl (nA Rr))), (hpr, .inl (cI, 192, .inl (nA Pr))), (hpd, .inl (cI, 8, .inl (nA Pd)))] (tyz cI cJ cS))) (QcRead (bi (decide (vR Sh Rr sp n r < rg)))) 0 0 (fun _ => False) := by
  refine Met.ofW (cc := cX4_at) (maxL := 3) (ret := (some .int)) (by decide) rfl ?_
  intro p e s m args below meth c s₁ B hml hv
  obtain ⟨rfl, hP, hKK⟩ := hv
  have hK := hKK.1
  have hx := B.exec
  have hb := B.bytes
  have hr := B.returns
  have hts := atoms_spec (ws := wsX4_at) B.pre
  have hown : s.vm.findClass RX4 = some m.cls := findClass_of_methodNamed B.named
  have hlocks := B.notSynchronized
  have hiX4 : ∀ w ∈ wsX40, w ∈ wsX4_at := by decide +kernel
  have hl := lv_entry ([.ref x0, .int (nI r), .int (nI 1)]) (n := 3) (Nat.le_of_ble_eq_true rfl)
  rw [lg_entry_eq]
  generalize (lg_sl ([.ref x0, .int (nI r), .int (nI 1)]) ++ List.replicate (3 - (lg_sl ([.ref x0, .int (nI r), .int (nI 1)])).length) Slot.unset).toArray = ls at hl ⊢
  have hl : lv_has ls 3 [(0, .ref x0), (1, .int (nI r)), (2, .int (nI 1))] := hl
  have hn6 := ok.1
  refine lv_iload_n hx hb dX4_at_0 rfl (lv_at hl 1 rfl) ?_
  refine rr_callR (va_runS (As := [.int (nI r)]) (rest := []) ⟨hx, hb, hml, hown, hts⟩ (c_X4_isRegister l (nI r) ) (va_cwS 1 hts gX4_at_X4_isRegister rfl rfl rfl (by decide +kernel) ⟨Nat.le_of_ble_eq_true rfl, Nat.le_of_ble_eq_true rfl⟩) rr_preT rfl rfl hl.1 rfl (lv_room (Nat.le_of_ble_eq_true rfl)) dX4_at_1 ⟨Nat.zero_le _, Nat.zero_le _⟩) ?_
  refine rr_top (y := bi true) (congrArg bi (inb_lt (by omega) (by omega))) ?_
  refine rb_if_eq (tgt := 15) hx hb dX4_at_4 (by decide) (fun c4 => ?_) (fun c4 => ?_)
  · exact absurd c4 (by decide)
  refine lv_iload_n hx hb dX4_at_7 rfl (lv_at hl 2 rfl) ?_
  refine lv_iconst (v := (nI 2)) hx hb dX4_at_8 (by decide) ?_
  refine rr_callR (va_runS (As := [.int (nI 1), .int (nI 2)]) (rest := []) ⟨hx, hb, hml, hown, hts⟩ (c_X4_isBelow l (nI 1) 2 (by first | assumption | omega)) (va_cwS 2 hts gX4_at_X4_isBelow rfl rfl rfl (by decide +kernel) ⟨Nat.le_of_ble_eq_true rfl, Nat.le_of_ble_eq_true rfl⟩) rr_preT rfl rfl hl.1 rfl (lv_room (Nat.le_of_ble_eq_true rfl)) dX4_at_9 ⟨Nat.zero_le _, Nat.zero_le _⟩) ?_
  refine rr_top (y := bi true) (congrArg bi (inb_lt (by omega) (by omega))) ?_
  refine rb_if_ne (tgt := 17) hx hb dX4_at_12 (by decide) (fun c12 => ?_) (fun c12 => ?_)
  rotate_left
  · exact absurd c12 (by decide)
  refine lv_iload_n hx hb dX4_at_17 rfl (lv_at hl 2 rfl) ?_
  refine rn_if_ne (tgt := 30) hx hb dX4_at_18 (by decide) (by omega) (fun c18 => ?_) (fun c18 => ?_)
  · skip
    refine lv_aload_n hx hb dX4_at_30 rfl (lv_at hl 0 rfl) ?_
    refine va_get (D := (dC, dI)) (ci := 4) (v := .ref b0) (C := RX4) (T := TX4) (N := 5) hx hb hts hiX4 hown hK hP 0 rfl rfl 1 (by decide) (hts (.fieldLink RX4 19 "RestRegisters" "now" "LRestRegisters$Bank;") (by decide +kernel)) (fun _ h9 => h9) rfl dX4_at_31 ?_
    refine lv_iload_n hx hb dX4_at_34 rfl (lv_at hl 1 rfl) ?_
    refine rr_callR (va_runV (As := [.int (nI r)]) (rest := []) ⟨hx, hb, hml, hown, hts⟩ (c_X0_isLegal l dC dI cI cJ cS b0 h3 hk hw hs hrs hpr hpd n h rg sp dr kn nx kf wf sf Kd Wd Sh Rr Pr Pd r (by first | assumption | omega) (by first | assumption | omega) (by first | assumption | omega) (by first | assumption | omega) (by first | assumption | omega) (by first | assumption | omega) (by first | assumption | omega) (by first | assumption | omega)) (cwV 1 hts gX4_at_X0_isLegal rfl rfl rfl (by decide +kernel) ⟨Nat.le_of_ble_eq_true rfl, Nat.le_of_ble_eq_true rfl⟩) (rr_preV hKK (hP.sub [1, 2, 3, 4, 5, 6, 7, 8] rfl) rfl rfl) rfl rfl hl.1 rfl (lv_room (Nat.le_of_ble_eq_true rfl)) dX4_at_35 ⟨Nat.zero_le _, Nat.zero_le _⟩) ?_
    refine rb_if_eq (tgt := 45) hx hb dX4_at_38 (by decide) (fun c38 => ?_) (fun c38 => ?_)
    · skip
      refine lv_iconst (v := (nI 0)) hx hb dX4_at_45 (by decide) ?_
      exact rr_iret hx hb hr hlocks dX4_at_46 (by rw [c38]; rfl)
    refine lv_iconst (v := (nI 1)) hx hb dX4_at_41 (by decide) ?_
    refine lv_goto (tgt := 46) hx hb dX4_at_42 (by decide) ?_
    exact rr_iret hx hb hr hlocks dX4_at_46 (by rw [c38]; rfl)
  exact absurd c18 (by decide)
set_option maxHeartbeats 4000000 in
set_option maxRecDepth 100000 in
theorem c_X4_at_b (l : Launch) (dC : Nat → ClassId) (dI : Nat → Nat → Nat) (cI cJ cS : ClassId) (x0 t0 k0 sa : Nat) (im : Bool) (b0 h3 hk hw hs hrs hpr hpd : Nat) (n h rg sp dr kn nx : Nat) (kf wf sf : Nat → Int32) (Kd Wd Sh Rr Pr Pd : Nat → Nat) (x y : Int32) (ok : wOk n Kd Wd) (fw : isA n wf Wd) (hbad : (inb x 4 && inb y 2) = false) : Met l yX4_at wsX4_at ({ frames := 3, cells := 0, slots := 0, locals := 66 }) (va_Pc [.ref x0, .int x, .int y] (rB (dC, dI) vwCl [(x0, .inr (4, [.ref t0, .ref b0, .ref k0, .int (bi im), .ref sa])), (b0, .inr (0, [.ref h3, .ref hrs, .int (nI dr), .int (nI kn), .int (nI nx), .ref hpr, .ref hpd])), (h3, .inr (3, [.int (nI n), .int (nI h), .int (nI rg), .int (nI sp), .ref hk, .ref hw, .ref hs])), (hk, .inl (cI, 6, .inl kf)), (hw, .inl (cI, 6, .inl wf)), (hs, .inl (cI, 6, .inl sf)), (hrs, .inl (cI, 24, .inl (nA Rr))), (hpr, .inl (cI, 192, .inl (nA Pr))), (hpd, .inl (cI, 8, .inl (nA Pd)))] (tyz cI cJ cS))) (QcRead (-1)) 0 0 (fun _ => False) := by
  refine Met.ofW (cc := cX4_at) (maxL := 3) (ret := (some .int)) (by decide) rfl ?_
  intro p e s m args below meth c s₁ B hml hv
  obtain ⟨rfl, hP, hKK⟩ := hv
  have hK := hKK.1
  have hx := B.exec
  have hb := B.bytes
  have hr := B.returns
  have hts := atoms_spec (ws := wsX4_at) B.pre
  have hown : s.vm.findClass RX4 = some m.cls := findClass_of_methodNamed B.named
  have hlocks := B.notSynchronized
  have hiX4 : ∀ w ∈ wsX40, w ∈ wsX4_at := by decide +kernel
  have hl := lv_entry ([.ref x0, .int x, .int y]) (n := 3) (Nat.le_of_ble_eq_true rfl)
  rw [lg_entry_eq]
  generalize (lg_sl ([.ref x0, .int x, .int y]) ++ List.replicate (3 - (lg_sl ([.ref x0, .int x, .int y])).length) Slot.unset).toArray = ls at hl ⊢
  have hl : lv_has ls 3 [(0, .ref x0), (1, .int x), (2, .int y)] := hl
  have hn6 := ok.1
  refine lv_iload_n hx hb dX4_at_0 rfl (lv_at hl 1 rfl) ?_
  refine rr_callR (va_runS (As := [.int x]) (rest := []) ⟨hx, hb, hml, hown, hts⟩ (c_X4_isRegister l x ) (va_cwS 1 hts gX4_at_X4_isRegister rfl rfl rfl (by decide +kernel) ⟨Nat.le_of_ble_eq_true rfl, Nat.le_of_ble_eq_true rfl⟩) rr_preT rfl rfl hl.1 rfl (lv_room (Nat.le_of_ble_eq_true rfl)) dX4_at_1 ⟨Nat.zero_le _, Nat.zero_le _⟩) ?_
  refine rb_if_eq (tgt := 15) hx hb dX4_at_4 (by decide) (fun c4 => ?_) (fun c4 => ?_)
  · skip
    refine lv_iconst (v := (-1)) hx hb dX4_at_15 (by decide) ?_
    exact rr_iret hx hb hr hlocks dX4_at_16 (rfl)
  refine lv_iload_n hx hb dX4_at_7 rfl (lv_at hl 2 rfl) ?_
  refine lv_iconst (v := (nI 2)) hx hb dX4_at_8 (by decide) ?_
  refine rr_callR (va_runS (As := [.int y, .int (nI 2)]) (rest := []) ⟨hx, hb, hml, hown, hts⟩ (c_X4_isBelow l y 2 (by first | assumption | omega)) (va_cwS 2 hts gX4_at_X4_isBelow rfl rfl rfl (by decide +kernel) ⟨Nat.le_of_ble_eq_true rfl, Nat.le_of_ble_eq_true rfl⟩) rr_preT rfl rfl hl.1 rfl (lv_room (Nat.le_of_ble_eq_true rfl)) dX4_at_9 ⟨Nat.zero_le _, Nat.zero_le _⟩) ?_
  refine rb_if_ne (tgt := 17) hx hb dX4_at_12 (by decide) (fun c12 => ?_) (fun c12 => ?_)
  · skip
    exact absurd hbad (by rw [c4, c12]; decide)
  refine lv_iconst (v := (-1)) hx hb dX4_at_15 (by decide) ?_
  exact rr_iret hx hb hr hlocks dX4_at_16 (rfl)
set_option maxHeartbeats 4000000 in
set_option maxRecDepth 100000 in
theorem c_X4_shows_0 (l : Launch) (dC : Nat → ClassId) (dI : Nat → Nat → Nat) (cI cJ cS : ClassId) (x0 t0 k0 sa : Nat) (im : Bool) (b0 h3 hk hw hs hrs hpr hpd : Nat) (n h rg sp dr kn nx : Nat) (kf wf sf : Nat → Int32) (Kd Wd Sh Rr Pr Pd : Nat → Nat) (k a b : Nat) (ok : wOk n Kd Wd) (fk : isA n kf Kd) (fw : isA n wf Wd) (hk2 : k < n) (ha : a < Wd k) (hb2 : b < Wd k) : Met l yX4_shows wsX4_shows ({ frames := 6, cells := 0, slots := 0, locals := 141 }) (va_Pc [.ref x0, .int (nI k), .int (nI a), .int (nI b), .int (nI 0)] (rB (dC, dI) vwCl [(x0, .inr (4, [.ref t0, .ref b0, .ref k0, .int (bi im), .ref sa])), (b0, .inr (0, [.ref h3, .ref hrs, .int (nI dr), .int (nI kn), .int (nI nx), .ref hpr, .ref hpd])), (h3, .inr (3, [.int (nI n), .int (nI h), .int (nI rg), .int (nI sp), .ref hk, .ref hw, .ref hs])), (hk, .inl (cI, 6, .inl kf)), (hw, .inl (cI, 6, .inl wf)), (hs, .inl (cI, 6, .inl sf)), (hrs, .inl (cI, 24, .inl (nA Rr))), (hpr, .inl (cI, 192, .inl (nA Pr))), (hpd, .inl (cI, 8, .inl (nA Pd)))] (tyz cI cJ cS))) (QcRead (nI (addK (Kd k) (Wd k) a b))) 0 0 (fun _ => False) := by
  refine Met.ofW (cc := cX4_shows) (maxL := 6) (ret := (some .int)) (by decide) rfl ?_
  intro p e s m args below meth c s₁ B hml hv
  obtain ⟨rfl, hP, hKK⟩ := hv
  have hK := hKK.1
  have hx := B.exec
  have hb := B.bytes
  have hr := B.returns
  have hts := atoms_spec (ws := wsX4_shows) B.pre
  have hown : s.vm.findClass RX4 = some m.cls := findClass_of_methodNamed B.named
  have hlocks := B.notSynchronized
  have hiX0 : ∀ w ∈ wsX00, w ∈ wsX4_shows := by decide +kernel
  have hiX3 : ∀ w ∈ wsX30, w ∈ wsX4_shows := by decide +kernel
  have hiX4 : ∀ w ∈ wsX40, w ∈ wsX4_shows := by decide +kernel
  have hl := lv_entry ([.ref x0, .int (nI k), .int (nI a), .int (nI b), .int (nI 0)]) (n := 6) (Nat.le_of_ble_eq_true rfl)
  rw [lg_entry_eq]
  generalize (lg_sl ([.ref x0, .int (nI k), .int (nI a), .int (nI b), .int (nI 0)]) ++ List.replicate (6 - (lg_sl ([.ref x0, .int (nI k), .int (nI a), .int (nI b), .int (nI 0)])).length) Slot.unset).toArray = ls at hl ⊢
  have hl : lv_has ls 6 [(0, .ref x0), (1, .int (nI k)), (2, .int (nI a)), (3, .int (nI b)), (4, .int (nI 0))] := hl
  have hn6 := ok.1
  refine lv_aload_n hx hb dX4_shows_0 rfl (lv_at hl 0 rfl) ?_
  refine lv_iload_n hx hb dX4_shows_1 rfl (lv_at hl 1 rfl) ?_
  refine rr_callR (va_runV (As := [.int (nI k)]) (rest := []) ⟨hx, hb, hml, hown, hts⟩ (c_X4_isWheel l dC dI cI cJ cS x0 t0 k0 sa im b0 h3 hk hw hs hrs hpr hpd n h rg sp dr kn nx kf wf sf Kd Wd Sh Rr Pr Pd (nI k) (by first | assumption | omega)) (cwV 1 hts gX4_shows_X4_isWheel rfl rfl rfl (by decide +kernel) ⟨Nat.le_of_ble_eq_true rfl, Nat.le_of_ble_eq_true rfl⟩) (rr_preV hKK hP rfl rfl) rfl rfl hl.1 rfl (lv_room (Nat.le_of_ble_eq_true rfl)) dX4_shows_2 ⟨Nat.zero_le _, Nat.zero_le _⟩) ?_
  refine rr_top (y := bi true) (congrArg bi (inb_lt (by omega) (by omega))) ?_
  refine rb_if_eq (tgt := 17) hx hb dX4_shows_5 (by decide) (fun c5 => ?_) (fun c5 => ?_)
  · exact absurd c5 (by decide)
  refine lv_iload hx hb dX4_shows_8 (lv_at hl 4 rfl) ?_
  refine lv_iconst (v := (nI 2)) hx hb dX4_shows_10 (by decide) ?_
  refine rr_callR (va_runS (As := [.int (nI 0), .int (nI 2)]) (rest := []) ⟨hx, hb, hml, hown, hts⟩ (c_X4_isBelow l (nI 0) 2 (by first | assumption | omega)) (va_cwS 2 hts gX4_shows_X4_isBelow rfl rfl rfl (by decide +kernel) ⟨Nat.le_of_ble_eq_true rfl, Nat.le_of_ble_eq_true rfl⟩) rr_preT rfl rfl hl.1 rfl (lv_room (Nat.le_of_ble_eq_true rfl)) dX4_shows_11 ⟨Nat.zero_le _, Nat.zero_le _⟩) ?_
  refine rr_top (y := bi true) (congrArg bi (inb_lt (by omega) (by omega))) ?_
  refine rb_if_ne (tgt := 19) hx hb dX4_shows_14 (by decide) (fun c14 => ?_) (fun c14 => ?_)
  rotate_left
  · exact absurd c14 (by decide)
  refine lv_aload_n hx hb dX4_shows_19 rfl (lv_at hl 0 rfl) ?_
  refine va_get (D := (dC, dI)) (ci := 4) (v := .ref b0) (C := RX4) (T := TX4) (N := 5) hx hb hts hiX4 hown hK hP 0 rfl rfl 1 (by decide) (hts (.fieldLink RX4 19 "RestRegisters" "now" "LRestRegisters$Bank;") (by decide +kernel)) (fun _ h9 => h9) rfl dX4_shows_20 ?_
  refine va_get (D := (dC, dI)) (ci := 0) (v := .ref h3) (C := RX0) (T := TX0) (N := 7) hx hb hts hiX0 hown hK hP 1 rfl rfl 0 (by decide) (hts (.fieldLink RX4 61 "RestRegisters$Bank" "wheels" "LRestRegisters$Wheels;") (by decide +kernel)) (fun _ h9 => h9) rfl dX4_shows_23 ?_
  refine lv_astore (lv' := [(5, .ref h3), (0, .ref x0), (1, .int (nI k)), (2, .int (nI a)), (3, .int (nI b)), (4, .int (nI 0))]) hx hb dX4_shows_26 hl (by decide) rfl (fun ls hl => ?_)
  refine lv_iload_n hx hb dX4_shows_28 rfl (lv_at hl 3 rfl) ?_
  refine lv_aload hx hb dX4_shows_29 (lv_at hl 0 rfl) ?_
  refine va_get (D := (dC, dI)) (ci := 3) (v := .ref hw) (C := RX3) (T := TX3) (N := 7) hx hb hts hiX3 hown hK hP 2 rfl rfl 5 (by decide) (hts (.fieldLink RX4 70 "RestRegisters$Wheels" "widths" "[I") (by decide +kernel)) (fun _ h9 => h9) rfl dX4_shows_31 ?_
  refine lv_iload_n hx hb dX4_shows_34 rfl (lv_at hl 2 rfl) ?_
  refine rn_iald hx hb hK hP 4 0 rfl rfl (i := k) (by omega) (by decide) (v := (nI (Wd k))) (fw k (by omega)) dX4_shows_35 ?_
  have hv35 := ok.2.2.1 k (by omega)
  refine rr_callR (va_runS (As := [.int (nI a), .int (nI (Wd k))]) (rest := []) ⟨hx, hb, hml, hown, hts⟩ (c_X4_isBelow l (nI a) (Wd k) (by first | assumption | omega)) (va_cwS 2 hts gX4_shows_X4_isBelow rfl rfl rfl (by decide +kernel) ⟨Nat.le_of_ble_eq_true rfl, Nat.le_of_ble_eq_true rfl⟩) rr_preT rfl rfl hl.1 rfl (lv_room (Nat.le_of_ble_eq_true rfl)) dX4_shows_36 ⟨Nat.zero_le _, Nat.zero_le _⟩) ?_
  refine rr_top (y := bi true) (congrArg bi (inb_lt (by omega) (by omega))) ?_
  refine rb_if_eq (tgt := 56) hx hb dX4_shows_39 (by decide) (fun c39 => ?_) (fun c39 => ?_)
  · exact absurd c39 (by decide)
  refine lv_iload_n hx hb dX4_shows_42 rfl (lv_at hl 4 rfl) ?_
  refine lv_aload hx hb dX4_shows_43 (lv_at hl 0 rfl) ?_
  refine va_get (D := (dC, dI)) (ci := 3) (v := .ref hw) (C := RX3) (T := TX3) (N := 7) hx hb hts hiX3 hown hK hP 2 rfl rfl 5 (by decide) (hts (.fieldLink RX4 70 "RestRegisters$Wheels" "widths" "[I") (by decide +kernel)) (fun _ h9 => h9) rfl dX4_shows_45 ?_
  refine lv_iload_n hx hb dX4_shows_48 rfl (lv_at hl 2 rfl) ?_
  refine rn_iald hx hb hK hP 4 0 rfl rfl (i := k) (by omega) (by decide) (v := (nI (Wd k))) (fw k (by omega)) dX4_shows_49 ?_
  have hv49 := ok.2.2.1 k (by omega)
  refine rr_callR (va_runS (As := [.int (nI b), .int (nI (Wd k))]) (rest := []) ⟨hx, hb, hml, hown, hts⟩ (c_X4_isBelow l (nI b) (Wd k) (by first | assumption | omega)) (va_cwS 2 hts gX4_shows_X4_isBelow rfl rfl rfl (by decide +kernel) ⟨Nat.le_of_ble_eq_true rfl, Nat.le_of_ble_eq_true rfl⟩) rr_preT rfl rfl hl.1 rfl (lv_room (Nat.le_of_ble_eq_true rfl)) dX4_shows_50 ⟨Nat.zero_le _, Nat.zero_le _⟩) ?_
  refine rr_top (y := bi true) (congrArg bi (inb_lt (by omega) (by omega))) ?_
  refine rb_if_ne (tgt := 58) hx hb dX4_shows_53 (by decide) (fun c53 => ?_) (fun c53 => ?_)
  rotate_left
  · exact absurd c53 (by decide)
  refine lv_iload hx hb dX4_shows_58 (lv_at hl 5 rfl) ?_
  refine rn_if_ne (tgt := 74) hx hb dX4_shows_60 (by decide) (by omega) (fun c60 => ?_) (fun c60 => ?_)
  · skip
    exact absurd rfl c60
  refine lv_aload hx hb dX4_shows_63 (lv_at hl 0 rfl) ?_
  refine lv_iload_n hx hb dX4_shows_65 rfl (lv_at hl 2 rfl) ?_
  refine lv_iload_n hx hb dX4_shows_66 rfl (lv_at hl 3 rfl) ?_
  refine lv_iload_n hx hb dX4_shows_67 rfl (lv_at hl 4 rfl) ?_
  refine rr_callR (va_runV (As := [.int (nI k), .int (nI a), .int (nI b)]) (rest := []) ⟨hx, hb, hml, hown, hts⟩ (c_X3_added l dC dI cI cJ cS h3 hk hw hs n h rg sp kf wf sf Kd Wd Sh k a b (by first | assumption | omega) (by first | assumption | omega) (by first | assumption | omega) (by first | assumption | omega) (by first | assumption | omega) (by first | assumption | omega)) (cwV 3 hts gX4_shows_X3_added rfl rfl rfl (by decide +kernel) ⟨Nat.le_of_ble_eq_true rfl, Nat.le_of_ble_eq_true rfl⟩) (rr_preV hKK (hP.sub [2, 3, 4, 5] rfl) rfl rfl) rfl rfl hl.1 rfl (lv_room (Nat.le_of_ble_eq_true rfl)) dX4_shows_68 ⟨Nat.zero_le _, Nat.zero_le _⟩) ?_
  refine lv_goto (tgt := 82) hx hb dX4_shows_71 (by decide) ?_
  exact rr_iret hx hb hr hlocks dX4_shows_82 (rfl)
set_option maxHeartbeats 4000000 in
set_option maxRecDepth 100000 in
theorem c_X4_shows_1 (l : Launch) (dC : Nat → ClassId) (dI : Nat → Nat → Nat) (cI cJ cS : ClassId) (x0 t0 k0 sa : Nat) (im : Bool) (b0 h3 hk hw hs hrs hpr hpd : Nat) (n h rg sp dr kn nx : Nat) (kf wf sf : Nat → Int32) (Kd Wd Sh Rr Pr Pd : Nat → Nat) (k a b : Nat) (ok : wOk n Kd Wd) (fk : isA n kf Kd) (fw : isA n wf Wd) (hk2 : k < n) (ha : a < Wd k) (hb2 : b < Wd k) : Met l yX4_shows wsX4_shows ({ frames := 6, cells := 0, slots := 0, locals := 141 }) (va_Pc [.ref x0, .int (nI k), .int (nI a), .int (nI b), .int (nI 1)] (rB (dC, dI) vwCl [(x0, .inr (4, [.ref t0, .ref b0, .ref k0, .int (bi im), .ref sa])), (b0, .inr (0, [.ref h3, .ref hrs, .int (nI dr), .int (nI kn), .int (nI nx), .ref hpr, .ref hpd])), (h3, .inr (3, [.int (nI n), .int (nI h), .int (nI rg), .int (nI sp), .ref hk, .ref hw, .ref hs])), (hk, .inl (cI, 6, .inl kf)), (hw, .inl (cI, 6, .inl wf)), (hs, .inl (cI, 6, .inl sf)), (hrs, .inl (cI, 24, .inl (nA Rr))), (hpr, .inl (cI, 192, .inl (nA Pr))), (hpd, .inl (cI, 8, .inl (nA Pd)))] (tyz cI cJ cS))) (QcRead (nI (addO (Kd k) (Wd k) 0 a b))) 0 0 (fun _ => False) := by
  refine Met.ofW (cc := cX4_shows) (maxL := 6) (ret := (some .int)) (by decide) rfl ?_
  intro p e s m args below meth c s₁ B hml hv
  obtain ⟨rfl, hP, hKK⟩ := hv
  have hK := hKK.1
  have hx := B.exec
  have hb := B.bytes
  have hr := B.returns
  have hts := atoms_spec (ws := wsX4_shows) B.pre
  have hown : s.vm.findClass RX4 = some m.cls := findClass_of_methodNamed B.named
  have hlocks := B.notSynchronized
  have hiX0 : ∀ w ∈ wsX00, w ∈ wsX4_shows := by decide +kernel
  have hiX3 : ∀ w ∈ wsX30, w ∈ wsX4_shows := by decide +kernel
  have hiX4 : ∀ w ∈ wsX40, w ∈ wsX4_shows := by decide +kernel
  have hl := lv_entry ([.ref x0, .int (nI k), .int (nI a), .int (nI b), .int (nI 1)]) (n := 6) (Nat.le_of_ble_eq_true rfl)
  rw [lg_entry_eq]
  generalize (lg_sl ([.ref x0, .int (nI k), .int (nI a), .int (nI b), .int (nI 1)]) ++ List.replicate (6 - (lg_sl ([.ref x0, .int (nI k), .int (nI a), .int (nI b), .int (nI 1)])).length) Slot.unset).toArray = ls at hl ⊢
  have hl : lv_has ls 6 [(0, .ref x0), (1, .int (nI k)), (2, .int (nI a)), (3, .int (nI b)), (4, .int (nI 1))] := hl
  have hn6 := ok.1
  refine lv_aload_n hx hb dX4_shows_0 rfl (lv_at hl 0 rfl) ?_
  refine lv_iload_n hx hb dX4_shows_1 rfl (lv_at hl 1 rfl) ?_
  refine rr_callR (va_runV (As := [.int (nI k)]) (rest := []) ⟨hx, hb, hml, hown, hts⟩ (c_X4_isWheel l dC dI cI cJ cS x0 t0 k0 sa im b0 h3 hk hw hs hrs hpr hpd n h rg sp dr kn nx kf wf sf Kd Wd Sh Rr Pr Pd (nI k) (by first | assumption | omega)) (cwV 1 hts gX4_shows_X4_isWheel rfl rfl rfl (by decide +kernel) ⟨Nat.le_of_ble_eq_true rfl, Nat.le_of_ble_eq_true rfl⟩) (rr_preV hKK hP rfl rfl) rfl rfl hl.1 rfl (lv_room (Nat.le_of_ble_eq_true rfl)) dX4_shows_2 ⟨Nat.zero_le _, Nat.zero_le _⟩) ?_
  refine rr_top (y := bi true) (congrArg bi (inb_lt (by omega) (by omega))) ?_
  refine rb_if_eq (tgt := 17) hx hb dX4_shows_5 (by decide) (fun c5 => ?_) (fun c5 => ?_)
  · exact absurd c5 (by decide)
  refine lv_iload hx hb dX4_shows_8 (lv_at hl 4 rfl) ?_
  refine lv_iconst (v := (nI 2)) hx hb dX4_shows_10 (by decide) ?_
  refine rr_callR (va_runS (As := [.int (nI 1), .int (nI 2)]) (rest := []) ⟨hx, hb, hml, hown, hts⟩ (c_X4_isBelow l (nI 1) 2 (by first | assumption | omega)) (va_cwS 2 hts gX4_shows_X4_isBelow rfl rfl rfl (by decide +kernel) ⟨Nat.le_of_ble_eq_true rfl, Nat.le_of_ble_eq_true rfl⟩) rr_preT rfl rfl hl.1 rfl (lv_room (Nat.le_of_ble_eq_true rfl)) dX4_shows_11 ⟨Nat.zero_le _, Nat.zero_le _⟩) ?_
  refine rr_top (y := bi true) (congrArg bi (inb_lt (by omega) (by omega))) ?_
  refine rb_if_ne (tgt := 19) hx hb dX4_shows_14 (by decide) (fun c14 => ?_) (fun c14 => ?_)
  rotate_left
  · exact absurd c14 (by decide)
  refine lv_aload_n hx hb dX4_shows_19 rfl (lv_at hl 0 rfl) ?_
  refine va_get (D := (dC, dI)) (ci := 4) (v := .ref b0) (C := RX4) (T := TX4) (N := 5) hx hb hts hiX4 hown hK hP 0 rfl rfl 1 (by decide) (hts (.fieldLink RX4 19 "RestRegisters" "now" "LRestRegisters$Bank;") (by decide +kernel)) (fun _ h9 => h9) rfl dX4_shows_20 ?_
  refine va_get (D := (dC, dI)) (ci := 0) (v := .ref h3) (C := RX0) (T := TX0) (N := 7) hx hb hts hiX0 hown hK hP 1 rfl rfl 0 (by decide) (hts (.fieldLink RX4 61 "RestRegisters$Bank" "wheels" "LRestRegisters$Wheels;") (by decide +kernel)) (fun _ h9 => h9) rfl dX4_shows_23 ?_
  refine lv_astore (lv' := [(5, .ref h3), (0, .ref x0), (1, .int (nI k)), (2, .int (nI a)), (3, .int (nI b)), (4, .int (nI 1))]) hx hb dX4_shows_26 hl (by decide) rfl (fun ls hl => ?_)
  refine lv_iload_n hx hb dX4_shows_28 rfl (lv_at hl 3 rfl) ?_
  refine lv_aload hx hb dX4_shows_29 (lv_at hl 0 rfl) ?_
  refine va_get (D := (dC, dI)) (ci := 3) (v := .ref hw) (C := RX3) (T := TX3) (N := 7) hx hb hts hiX3 hown hK hP 2 rfl rfl 5 (by decide) (hts (.fieldLink RX4 70 "RestRegisters$Wheels" "widths" "[I") (by decide +kernel)) (fun _ h9 => h9) rfl dX4_shows_31 ?_
  refine lv_iload_n hx hb dX4_shows_34 rfl (lv_at hl 2 rfl) ?_
  refine rn_iald hx hb hK hP 4 0 rfl rfl (i := k) (by omega) (by decide) (v := (nI (Wd k))) (fw k (by omega)) dX4_shows_35 ?_
  have hv35 := ok.2.2.1 k (by omega)
  refine rr_callR (va_runS (As := [.int (nI a), .int (nI (Wd k))]) (rest := []) ⟨hx, hb, hml, hown, hts⟩ (c_X4_isBelow l (nI a) (Wd k) (by first | assumption | omega)) (va_cwS 2 hts gX4_shows_X4_isBelow rfl rfl rfl (by decide +kernel) ⟨Nat.le_of_ble_eq_true rfl, Nat.le_of_ble_eq_true rfl⟩) rr_preT rfl rfl hl.1 rfl (lv_room (Nat.le_of_ble_eq_true rfl)) dX4_shows_36 ⟨Nat.zero_le _, Nat.zero_le _⟩) ?_
  refine rr_top (y := bi true) (congrArg bi (inb_lt (by omega) (by omega))) ?_
  refine rb_if_eq (tgt := 56) hx hb dX4_shows_39 (by decide) (fun c39 => ?_) (fun c39 => ?_)
  · exact absurd c39 (by decide)
  refine lv_iload_n hx hb dX4_shows_42 rfl (lv_at hl 4 rfl) ?_
  refine lv_aload hx hb dX4_shows_43 (lv_at hl 0 rfl) ?_
  refine va_get (D := (dC, dI)) (ci := 3) (v := .ref hw) (C := RX3) (T := TX3) (N := 7) hx hb hts hiX3 hown hK hP 2 rfl rfl 5 (by decide) (hts (.fieldLink RX4 70 "RestRegisters$Wheels" "widths" "[I") (by decide +kernel)) (fun _ h9 => h9) rfl dX4_shows_45 ?_
  refine lv_iload_n hx hb dX4_shows_48 rfl (lv_at hl 2 rfl) ?_
  refine rn_iald hx hb hK hP 4 0 rfl rfl (i := k) (by omega) (by decide) (v := (nI (Wd k))) (fw k (by omega)) dX4_shows_49 ?_
  have hv49 := ok.2.2.1 k (by omega)
  refine rr_callR (va_runS (As := [.int (nI b), .int (nI (Wd k))]) (rest := []) ⟨hx, hb, hml, hown, hts⟩ (c_X4_isBelow l (nI b) (Wd k) (by first | assumption | omega)) (va_cwS 2 hts gX4_shows_X4_isBelow rfl rfl rfl (by decide +kernel) ⟨Nat.le_of_ble_eq_true rfl, Nat.le_of_ble_eq_true rfl⟩) rr_preT rfl rfl hl.1 rfl (lv_room (Nat.le_of_ble_eq_true rfl)) dX4_shows_50 ⟨Nat.zero_le _, Nat.zero_le _⟩) ?_
  refine rr_top (y := bi true) (congrArg bi (inb_lt (by omega) (by omega))) ?_
  refine rb_if_ne (tgt := 58) hx hb dX4_shows_53 (by decide) (fun c53 => ?_) (fun c53 => ?_)
  rotate_left
  · exact absurd c53 (by decide)
  refine lv_iload hx hb dX4_shows_58 (lv_at hl 5 rfl) ?_
  refine rn_if_ne (tgt := 74) hx hb dX4_shows_60 (by decide) (by omega) (fun c60 => ?_) (fun c60 => ?_)
  · skip
    refine lv_aload hx hb dX4_shows_74 (lv_at hl 0 rfl) ?_
    refine lv_iload_n hx hb dX4_shows_76 rfl (lv_at hl 2 rfl) ?_
    refine lv_iload_n hx hb dX4_shows_77 rfl (lv_at hl 3 rfl) ?_
    refine lv_iload_n hx hb dX4_shows_78 rfl (lv_at hl 4 rfl) ?_
    refine rr_callR (va_runV (As := [.int (nI k), .int (nI a), .int (nI b)]) (rest := []) ⟨hx, hb, hml, hown, hts⟩ (c_X3_multiplied l dC dI cI cJ cS h3 hk hw hs n h rg sp kf wf sf Kd Wd Sh k a b (by first | assumption | omega) (by first | assumption | omega) (by first | assumption | omega) (by first | assumption | omega) (by first | assumption | omega) (by first | assumption | omega)) (cwV 3 hts gX4_shows_X3_multiplied rfl rfl rfl (by decide +kernel) ⟨Nat.le_of_ble_eq_true rfl, Nat.le_of_ble_eq_true rfl⟩) (rr_preV hKK (hP.sub [2, 3, 4, 5] rfl) rfl rfl) rfl rfl hl.1 rfl (lv_room (Nat.le_of_ble_eq_true rfl)) dX4_shows_79 ⟨Nat.zero_le _, Nat.zero_le _⟩) ?_
    exact rr_iret hx hb hr hlocks dX4_shows_82 (rfl)
  exact absurd c60 (by decide)
set_option maxHeartbeats 4000000 in
set_option maxRecDepth 100000 in
theorem c_X4_shows_b1 (l : Launch) (dC : Nat → ClassId) (dI : Nat → Nat → Nat) (cI cJ cS : ClassId) (x0 t0 k0 sa : Nat) (im : Bool) (b0 h3 hk hw hs hrs hpr hpd : Nat) (n h rg sp dr kn nx : Nat) (kf wf sf : Nat → Int32) (Kd Wd Sh Rr Pr Pd : Nat → Nat) (x y z u : Int32) (ok : wOk n Kd Wd) (fw : isA n wf Wd) (hbad : (inb x n) = false) : Met l yX4_shows wsX4_shows ({ frames := 6, cells := 0, slots := 0, locals := 141 }) (va_Pc [.ref x0, .int x, .int y, .int z, .int u] (rB (dC, dI) vwCl [(x0, .inr (4, [.ref t0, .ref b0, .ref k0, .int (bi im), .ref sa])), (b0, .inr (0, [.ref h3, .ref hrs, .int (nI dr), .int (nI kn), .int (nI nx), .ref hpr, .ref hpd])), (h3, .inr (3, [.int (nI n), .int (nI h), .int (nI rg), .int (nI sp), .ref hk, .ref hw, .ref hs])), (hk, .inl (cI, 6, .inl kf)), (hw, .inl (cI, 6, .inl wf)), (hs, .inl (cI, 6, .inl sf)), (hrs, .inl (cI, 24, .inl (nA Rr))), (hpr, .inl (cI, 192, .inl (nA Pr))), (hpd, .inl (cI, 8, .inl (nA Pd)))] (tyz cI cJ cS))) (QcRead (-1)) 0 0 (fun _ => False) := by
  refine Met.ofW (cc := cX4_shows) (maxL := 6) (ret := (some .int)) (by decide) rfl ?_
  intro p e s m args below meth c s₁ B hml hv
  obtain ⟨rfl, hP, hKK⟩ := hv
  have hK := hKK.1
  have hx := B.exec
  have hb := B.bytes
  have hr := B.returns
  have hts := atoms_spec (ws := wsX4_shows) B.pre
  have hown : s.vm.findClass RX4 = some m.cls := findClass_of_methodNamed B.named
  have hlocks := B.notSynchronized
  have hiX0 : ∀ w ∈ wsX00, w ∈ wsX4_shows := by decide +kernel
  have hiX3 : ∀ w ∈ wsX30, w ∈ wsX4_shows := by decide +kernel
  have hiX4 : ∀ w ∈ wsX40, w ∈ wsX4_shows := by decide +kernel
  have hl := lv_entry ([.ref x0, .int x, .int y, .int z, .int u]) (n := 6) (Nat.le_of_ble_eq_true rfl)
  rw [lg_entry_eq]
  generalize (lg_sl ([.ref x0, .int x, .int y, .int z, .int u]) ++ List.replicate (6 - (lg_sl ([.ref x0, .int x, .int y, .int z, .int u])).length) Slot.unset).toArray = ls at hl ⊢
  have hl : lv_has ls 6 [(0, .ref x0), (1, .int x), (2, .int y), (3, .int z), (4, .int u)] := hl
  have hn6 := ok.1
  refine lv_aload_n hx hb dX4_shows_0 rfl (lv_at hl 0 rfl) ?_
  refine lv_iload_n hx hb dX4_shows_1 rfl (lv_at hl 1 rfl) ?_
  refine rr_callR (va_runV (As := [.int x]) (rest := []) ⟨hx, hb, hml, hown, hts⟩ (c_X4_isWheel l dC dI cI cJ cS x0 t0 k0 sa im b0 h3 hk hw hs hrs hpr hpd n h rg sp dr kn nx kf wf sf Kd Wd Sh Rr Pr Pd x (by first | assumption | omega)) (cwV 1 hts gX4_shows_X4_isWheel rfl rfl rfl (by decide +kernel) ⟨Nat.le_of_ble_eq_true rfl, Nat.le_of_ble_eq_true rfl⟩) (rr_preV hKK hP rfl rfl) rfl rfl hl.1 rfl (lv_room (Nat.le_of_ble_eq_true rfl)) dX4_shows_2 ⟨Nat.zero_le _, Nat.zero_le _⟩) ?_
  refine rb_if_eq (tgt := 17) hx hb dX4_shows_5 (by decide) (fun c5 => ?_) (fun c5 => ?_)
  · skip
    refine lv_iconst (v := (-1)) hx hb dX4_shows_17 (by decide) ?_
    exact rr_iret hx hb hr hlocks dX4_shows_18 (rfl)
  exact absurd hbad (by rw [c5]; decide)
set_option maxHeartbeats 4000000 in
set_option maxRecDepth 100000 in
theorem c_X4_shows_b2 (l : Launch) (dC : Nat → ClassId) (dI : Nat → Nat → Nat) (cI cJ cS : ClassId) (x0 t0 k0 sa : Nat) (im : Bool) (b0 h3 hk hw hs hrs hpr hpd : Nat) (n h rg sp dr kn nx : Nat) (kf wf sf : Nat → Int32) (Kd Wd Sh Rr Pr Pd : Nat → Nat) (k : Nat) (y z u : Int32) (ok : wOk n Kd Wd) (fw : isA n wf Wd) (hk2 : k < n) (hbad : (inb y (Wd k) && inb z (Wd k) && inb u 2) = false) : Met l yX4_shows wsX4_shows ({ frames := 6, cells := 0, slots := 0, locals := 141 }) (va_Pc [.ref x0, .int (nI k), .int y, .int z, .int u] (rB (dC, dI) vwCl [(x0, .inr (4, [.ref t0, .ref b0, .ref k0, .int (bi im), .ref sa])), (b0, .inr (0, [.ref h3, .ref hrs, .int (nI dr), .int (nI kn), .int (nI nx), .ref hpr, .ref hpd])), (h3, .inr (3, [.int (nI n), .int (nI h), .int (nI rg), .int (nI sp), .ref hk, .ref hw, .ref hs])), (hk, .inl (cI, 6, .inl kf)), (hw, .inl (cI, 6, .inl wf)), (hs, .inl (cI, 6, .inl sf)), (hrs, .inl (cI, 24, .inl (nA Rr))), (hpr, .inl (cI, 192, .inl (nA Pr))), (hpd, .inl (cI, 8, .inl (nA Pd)))] (tyz cI cJ cS))) (QcRead (-1)) 0 0 (fun _ => False) := by
  refine Met.ofW (cc := cX4_shows) (maxL := 6) (ret := (some .int)) (by decide) rfl ?_
  intro p e s m args below meth c s₁ B hml hv
  obtain ⟨rfl, hP, hKK⟩ := hv
  have hK := hKK.1
  have hx := B.exec
  have hb := B.bytes
  have hr := B.returns
  have hts := atoms_spec (ws := wsX4_shows) B.pre
  have hown : s.vm.findClass RX4 = some m.cls := findClass_of_methodNamed B.named
  have hlocks := B.notSynchronized
  have hiX0 : ∀ w ∈ wsX00, w ∈ wsX4_shows := by decide +kernel
  have hiX3 : ∀ w ∈ wsX30, w ∈ wsX4_shows := by decide +kernel
  have hiX4 : ∀ w ∈ wsX40, w ∈ wsX4_shows := by decide +kernel
  have hl := lv_entry ([.ref x0, .int (nI k), .int y, .int z, .int u]) (n := 6) (Nat.le_of_ble_eq_true rfl)
  rw [lg_entry_eq]
  generalize (lg_sl ([.ref x0, .int (nI k), .int y, .int z, .int u]) ++ List.replicate (6 - (lg_sl ([.ref x0, .int (nI k), .int y, .int z, .int u])).length) Slot.unset).toArray = ls at hl ⊢
  have hl : lv_has ls 6 [(0, .ref x0), (1, .int (nI k)), (2, .int y), (3, .int z), (4, .int u)] := hl
  have hn6 := ok.1
  refine lv_aload_n hx hb dX4_shows_0 rfl (lv_at hl 0 rfl) ?_
  refine lv_iload_n hx hb dX4_shows_1 rfl (lv_at hl 1 rfl) ?_
  refine rr_callR (va_runV (As := [.int (nI k)]) (rest := []) ⟨hx, hb, hml, hown, hts⟩ (c_X4_isWheel l dC dI cI cJ cS x0 t0 k0 sa im b0 h3 hk hw hs hrs hpr hpd n h rg sp dr kn nx kf wf sf Kd Wd Sh Rr Pr Pd (nI k) (by first | assumption | omega)) (cwV 1 hts gX4_shows_X4_isWheel rfl rfl rfl (by decide +kernel) ⟨Nat.le_of_ble_eq_true rfl, Nat.le_of_ble_eq_true rfl⟩) (rr_preV hKK hP rfl rfl) rfl rfl hl.1 rfl (lv_room (Nat.le_of_ble_eq_true rfl)) dX4_shows_2 ⟨Nat.zero_le _, Nat.zero_le _⟩) ?_
  refine rr_top (y := bi true) (congrArg bi (inb_lt (by omega) (by omega))) ?_
  refine rb_if_eq (tgt := 17) hx hb dX4_shows_5 (by decide) (fun c5 => ?_) (fun c5 => ?_)
  · exact absurd c5 (by decide)
  refine lv_iload hx hb dX4_shows_8 (lv_at hl 4 rfl) ?_
  refine lv_iconst (v := (nI 2)) hx hb dX4_shows_10 (by decide) ?_
  refine rr_callR (va_runS (As := [.int u, .int (nI 2)]) (rest := []) ⟨hx, hb, hml, hown, hts⟩ (c_X4_isBelow l u 2 (by first | assumption | omega)) (va_cwS 2 hts gX4_shows_X4_isBelow rfl rfl rfl (by decide +kernel) ⟨Nat.le_of_ble_eq_true rfl, Nat.le_of_ble_eq_true rfl⟩) rr_preT rfl rfl hl.1 rfl (lv_room (Nat.le_of_ble_eq_true rfl)) dX4_shows_11 ⟨Nat.zero_le _, Nat.zero_le _⟩) ?_
  refine rb_if_ne (tgt := 19) hx hb dX4_shows_14 (by decide) (fun c14 => ?_) (fun c14 => ?_)
  · skip
    refine lv_aload_n hx hb dX4_shows_19 rfl (lv_at hl 0 rfl) ?_
    refine va_get (D := (dC, dI)) (ci := 4) (v := .ref b0) (C := RX4) (T := TX4) (N := 5) hx hb hts hiX4 hown hK hP 0 rfl rfl 1 (by decide) (hts (.fieldLink RX4 19 "RestRegisters" "now" "LRestRegisters$Bank;") (by decide +kernel)) (fun _ h9 => h9) rfl dX4_shows_20 ?_
    refine va_get (D := (dC, dI)) (ci := 0) (v := .ref h3) (C := RX0) (T := TX0) (N := 7) hx hb hts hiX0 hown hK hP 1 rfl rfl 0 (by decide) (hts (.fieldLink RX4 61 "RestRegisters$Bank" "wheels" "LRestRegisters$Wheels;") (by decide +kernel)) (fun _ h9 => h9) rfl dX4_shows_23 ?_
    refine lv_astore (lv' := [(5, .ref h3), (0, .ref x0), (1, .int (nI k)), (2, .int y), (3, .int z), (4, .int u)]) hx hb dX4_shows_26 hl (by decide) rfl (fun ls hl => ?_)
    refine lv_iload_n hx hb dX4_shows_28 rfl (lv_at hl 3 rfl) ?_
    refine lv_aload hx hb dX4_shows_29 (lv_at hl 0 rfl) ?_
    refine va_get (D := (dC, dI)) (ci := 3) (v := .ref hw) (C := RX3) (T := TX3) (N := 7) hx hb hts hiX3 hown hK hP 2 rfl rfl 5 (by decide) (hts (.fieldLink RX4 70 "RestRegisters$Wheels" "widths" "[I") (by decide +kernel)) (fun _ h9 => h9) rfl dX4_shows_31 ?_
    refine lv_iload_n hx hb dX4_shows_34 rfl (lv_at hl 2 rfl) ?_
    refine rn_iald hx hb hK hP 4 0 rfl rfl (i := k) (by omega) (by decide) (v := (nI (Wd k))) (fw k (by omega)) dX4_shows_35 ?_
    have hv35 := ok.2.2.1 k (by omega)
    refine rr_callR (va_runS (As := [.int y, .int (nI (Wd k))]) (rest := []) ⟨hx, hb, hml, hown, hts⟩ (c_X4_isBelow l y (Wd k) (by first | assumption | omega)) (va_cwS 2 hts gX4_shows_X4_isBelow rfl rfl rfl (by decide +kernel) ⟨Nat.le_of_ble_eq_true rfl, Nat.le_of_ble_eq_true rfl⟩) rr_preT rfl rfl hl.1 rfl (lv_room (Nat.le_of_ble_eq_true rfl)) dX4_shows_36 ⟨Nat.zero_le _, Nat.zero_le _⟩) ?_
    refine rb_if_eq (tgt := 56) hx hb dX4_shows_39 (by decide) (fun c39 => ?_) (fun c39 => ?_)
    · skip
      refine lv_iconst (v := (-1)) hx hb dX4_shows_56 (by decide) ?_
      exact rr_iret hx hb hr hlocks dX4_shows_57 (rfl)
    refine lv_iload_n hx hb dX4_shows_42 rfl (lv_at hl 4 rfl) ?_
    refine lv_aload hx hb dX4_shows_43 (lv_at hl 0 rfl) ?_
    refine va_get (D := (dC, dI)) (ci := 3) (v := .ref hw) (C := RX3) (T := TX3) (N := 7) hx hb hts hiX3 hown hK hP 2 rfl rfl 5 (by decide) (hts (.fieldLink RX4 70 "RestRegisters$Wheels" "widths" "[I") (by decide +kernel)) (fun _ h9 => h9) rfl dX4_shows_45 ?_
    refine lv_iload_n hx hb dX4_shows_48 rfl (lv_at hl 2 rfl) ?_
    refine rn_iald hx hb hK hP 4 0 rfl rfl (i := k) (by omega) (by decide) (v := (nI (Wd k))) (fw k (by omega)) dX4_shows_49 ?_
    have hv49 := ok.2.2.1 k (by omega)
    refine rr_callR (va_runS (As := [.int z, .int (nI (Wd k))]) (rest := []) ⟨hx, hb, hml, hown, hts⟩ (c_X4_isBelow l z (Wd k) (by first | assumption | omega)) (va_cwS 2 hts gX4_shows_X4_isBelow rfl rfl rfl (by decide +kernel) ⟨Nat.le_of_ble_eq_true rfl, Nat.le_of_ble_eq_true rfl⟩) rr_preT rfl rfl hl.1 rfl (lv_room (Nat.le_of_ble_eq_true rfl)) dX4_shows_50 ⟨Nat.zero_le _, Nat.zero_le _⟩) ?_
    refine rb_if_ne (tgt := 58) hx hb dX4_shows_53 (by decide) (fun c53 => ?_) (fun c53 => ?_)
    · skip
      exact absurd hbad (by rw [c39, c53, c14]; decide)
    refine lv_iconst (v := (-1)) hx hb dX4_shows_56 (by decide) ?_
    exact rr_iret hx hb hr hlocks dX4_shows_57 (rfl)
  refine lv_iconst (v := (-1)) hx hb dX4_shows_17 (by decide) ?_
  exact rr_iret hx hb hr hlocks dX4_shows_18 (rfl)
set_option maxHeartbeats 4000000 in
set_option maxRecDepth 100000 in
theorem c_X4_count_0 (l : Launch) (dC : Nat → ClassId) (dI : Nat → Nat → Nat) (cI cJ cS : ClassId) (x0 t0 k0 sa : Nat) (im : Bool) (b0 h3 hk hw hs hrs hpr hpd : Nat) (n h rg sp dr kn nx : Nat) (kf wf sf : Nat → Int32) (Kd Wd Sh Rr Pr Pd : Nat → Nat) (ok : wOk n Kd Wd) (fk : isA n kf Kd) (fw : isA n wf Wd) (fs : isA n sf Sh) (hS : ∀ j, j < n → Sh j < sp) (hsp : sp ≤ 47045881) (hsp0 : 0 < sp) (hR : rOk n Wd Rr) (hrg : rg < 2 ^ 31) : Met l yX4_count wsX4_count ({ frames := 4, cells := 0, slots := 0, locals := 88 }) (va_Pc [.ref x0, .int (nI 0)] (rB (dC, dI) vwCl [(x0, .inr (4, [.ref t0, .ref b0, .ref k0, .int (bi im), .ref sa])), (b0, .inr (0, [.ref h3, .ref hrs, .int (nI dr), .int (nI kn), .int (nI nx), .ref hpr, .ref hpd])), (h3, .inr (3, [.int (nI n), .int (nI h), .int (nI rg), .int (nI sp), .ref hk, .ref hw, .ref hs])), (hk, .inl (cI, 6, .inl kf)), (hw, .inl (cI, 6, .inl wf)), (hs, .inl (cI, 6, .inl sf)), (hrs, .inl (cI, 24, .inl (nA Rr))), (hpr, .inl (cI, 192, .inl (nA Pr))), (hpd, .inl (cI, 8, .inl (nA Pd)))] (tyz cI cJ cS))) (QcRead (nI n)) 0 0 (fun _ => False) := by
  refine Met.ofW (cc := cX4_count) (maxL := 3) (ret := (some .int)) (by decide) rfl ?_
  intro p e s m args below meth c s₁ B hml hv
  obtain ⟨rfl, hP, hKK⟩ := hv
  have hK := hKK.1
  have hx := B.exec
  have hb := B.bytes
  have hr := B.returns
  have hts := atoms_spec (ws := wsX4_count) B.pre
  have hown : s.vm.findClass RX4 = some m.cls := findClass_of_methodNamed B.named
  have hlocks := B.notSynchronized
  have hiX0 : ∀ w ∈ wsX00, w ∈ wsX4_count := by decide +kernel
  have hiX3 : ∀ w ∈ wsX30, w ∈ wsX4_count := by decide +kernel
  have hiX4 : ∀ w ∈ wsX40, w ∈ wsX4_count := by decide +kernel
  have hl := lv_entry ([.ref x0, .int (nI 0)]) (n := 3) (Nat.le_of_ble_eq_true rfl)
  rw [lg_entry_eq]
  generalize (lg_sl ([.ref x0, .int (nI 0)]) ++ List.replicate (3 - (lg_sl ([.ref x0, .int (nI 0)])).length) Slot.unset).toArray = ls at hl ⊢
  have hl : lv_has ls 3 [(0, .ref x0), (1, .int (nI 0))] := hl
  have hn6 := ok.1
  refine lv_aload_n hx hb dX4_count_0 rfl (lv_at hl 0 rfl) ?_
  refine va_get (D := (dC, dI)) (ci := 4) (v := .ref b0) (C := RX4) (T := TX4) (N := 5) hx hb hts hiX4 hown hK hP 0 rfl rfl 1 (by decide) (hts (.fieldLink RX4 19 "RestRegisters" "now" "LRestRegisters$Bank;") (by decide +kernel)) (fun _ h9 => h9) rfl dX4_count_1 ?_
  refine va_get (D := (dC, dI)) (ci := 0) (v := .ref h3) (C := RX0) (T := TX0) (N := 7) hx hb hts hiX0 hown hK hP 1 rfl rfl 0 (by decide) (hts (.fieldLink RX4 61 "RestRegisters$Bank" "wheels" "LRestRegisters$Wheels;") (by decide +kernel)) (fun _ h9 => h9) rfl dX4_count_4 ?_
  refine lv_astore_n (lv' := [(2, .ref h3), (0, .ref x0), (1, .int (nI 0))]) hx hb dX4_count_7 rfl hl (by decide) rfl (fun ls hl => ?_)
  refine lv_iload_n hx hb dX4_count_8 rfl (lv_at hl 2 rfl) ?_
  by_cases w9_0 : 0 = 0
  · refine rn_top w9_0 ?_
    refine lv_tableIn (off := 43) (tgt := 52) hx hb dX4_count_9 (by decide) (by decide) (by decide) (by decide) ?_
    refine lv_aload_n hx hb dX4_count_52 rfl (lv_at hl 0 rfl) ?_
    refine va_get (D := (dC, dI)) (ci := 3) (v := .int (nI n)) (C := RX3) (T := TX3) (N := 7) hx hb hts hiX3 hown hK hP 2 rfl rfl 0 (by decide) (hts (.fieldLink RX4 104 "RestRegisters$Wheels" "size" "I") (by decide +kernel)) (fun _ h9 => h9) rfl dX4_count_53 ?_
    exact rr_iret hx hb hr hlocks dX4_count_56 (rfl)
  by_cases w9_1 : 0 = 1
  · refine rn_top w9_1 ?_
    refine lv_tableIn (off := 48) (tgt := 57) hx hb dX4_count_9 (by decide) (by decide) (by decide) (by decide) ?_
    exact absurd w9_1 (by decide)
  by_cases w9_2 : 0 = 2
  · refine rn_top w9_2 ?_
    refine lv_tableIn (off := 53) (tgt := 62) hx hb dX4_count_9 (by decide) (by decide) (by decide) (by decide) ?_
    exact absurd w9_2 (by decide)
  by_cases w9_3 : 0 = 3
  · refine rn_top w9_3 ?_
    refine lv_tableIn (off := 58) (tgt := 67) hx hb dX4_count_9 (by decide) (by decide) (by decide) (by decide) ?_
    exact absurd w9_3 (by decide)
  by_cases w9_4 : 0 = 4
  · refine rn_top w9_4 ?_
    refine lv_tableIn (off := 63) (tgt := 72) hx hb dX4_count_9 (by decide) (by decide) (by decide) (by decide) ?_
    exact absurd w9_4 (by decide)
  by_cases w9_5 : 0 = 5
  · refine rn_top w9_5 ?_
    refine lv_tableIn (off := 71) (tgt := 80) hx hb dX4_count_9 (by decide) (by decide) (by decide) (by decide) ?_
    exact absurd w9_5 (by decide)
  by_cases w9_6 : 0 = 6
  · refine rn_top w9_6 ?_
    refine lv_tableIn (off := 76) (tgt := 85) hx hb dX4_count_9 (by decide) (by decide) (by decide) (by decide) ?_
    exact absurd w9_6 (by decide)
  refine lv_tableOut (tgt := 93) hx hb dX4_count_9 (sw_outN 0 6 (by omega) (by omega)) (by decide) ?_
  exact absurd rfl w9_0
set_option maxHeartbeats 4000000 in
set_option maxRecDepth 100000 in
theorem c_X4_count_1 (l : Launch) (dC : Nat → ClassId) (dI : Nat → Nat → Nat) (cI cJ cS : ClassId) (x0 t0 k0 sa : Nat) (im : Bool) (b0 h3 hk hw hs hrs hpr hpd : Nat) (n h rg sp dr kn nx : Nat) (kf wf sf : Nat → Int32) (Kd Wd Sh Rr Pr Pd : Nat → Nat) (ok : wOk n Kd Wd) (fk : isA n kf Kd) (fw : isA n wf Wd) (fs : isA n sf Sh) (hS : ∀ j, j < n → Sh j < sp) (hsp : sp ≤ 47045881) (hsp0 : 0 < sp) (hR : rOk n Wd Rr) (hrg : rg < 2 ^ 31) : Met l yX4_count wsX4_count ({ frames := 4, cells := 0, slots := 0, locals := 88 }) (va_Pc [.ref x0, .int (nI 1)] (rB (dC, dI) vwCl [(x0, .inr (4, [.ref t0, .ref b0, .ref k0, .int (bi im), .ref sa])), (b0, .inr (0, [.ref h3, .ref hrs, .int (nI dr), .int (nI kn), .int (nI nx), .ref hpr, .ref hpd])), (h3, .inr (3, [.int (nI n), .int (nI h), .int (nI rg), .int (nI sp), .ref hk, .ref hw, .ref hs])), (hk, .inl (cI, 6, .inl kf)), (hw, .inl (cI, 6, .inl wf)), (hs, .inl (cI, 6, .inl sf)), (hrs, .inl (cI, 24, .inl (nA Rr))), (hpr, .inl (cI, 192, .inl (nA Pr))), (hpd, .inl (cI, 8, .inl (nA Pd)))] (tyz cI cJ cS))) (QcRead (nI h)) 0 0 (fun _ => False) := by
  refine Met.ofW (cc := cX4_count) (maxL := 3) (ret := (some .int)) (by decide) rfl ?_
  intro p e s m args below meth c s₁ B hml hv
  obtain ⟨rfl, hP, hKK⟩ := hv
  have hK := hKK.1
  have hx := B.exec
  have hb := B.bytes
  have hr := B.returns
  have hts := atoms_spec (ws := wsX4_count) B.pre
  have hown : s.vm.findClass RX4 = some m.cls := findClass_of_methodNamed B.named
  have hlocks := B.notSynchronized
  have hiX0 : ∀ w ∈ wsX00, w ∈ wsX4_count := by decide +kernel
  have hiX3 : ∀ w ∈ wsX30, w ∈ wsX4_count := by decide +kernel
  have hiX4 : ∀ w ∈ wsX40, w ∈ wsX4_count := by decide +kernel
  have hl := lv_entry ([.ref x0, .int (nI 1)]) (n := 3) (Nat.le_of_ble_eq_true rfl)
  rw [lg_entry_eq]
  generalize (lg_sl ([.ref x0, .int (nI 1)]) ++ List.replicate (3 - (lg_sl ([.ref x0, .int (nI 1)])).length) Slot.unset).toArray = ls at hl ⊢
  have hl : lv_has ls 3 [(0, .ref x0), (1, .int (nI 1))] := hl
  have hn6 := ok.1
  refine lv_aload_n hx hb dX4_count_0 rfl (lv_at hl 0 rfl) ?_
  refine va_get (D := (dC, dI)) (ci := 4) (v := .ref b0) (C := RX4) (T := TX4) (N := 5) hx hb hts hiX4 hown hK hP 0 rfl rfl 1 (by decide) (hts (.fieldLink RX4 19 "RestRegisters" "now" "LRestRegisters$Bank;") (by decide +kernel)) (fun _ h9 => h9) rfl dX4_count_1 ?_
  refine va_get (D := (dC, dI)) (ci := 0) (v := .ref h3) (C := RX0) (T := TX0) (N := 7) hx hb hts hiX0 hown hK hP 1 rfl rfl 0 (by decide) (hts (.fieldLink RX4 61 "RestRegisters$Bank" "wheels" "LRestRegisters$Wheels;") (by decide +kernel)) (fun _ h9 => h9) rfl dX4_count_4 ?_
  refine lv_astore_n (lv' := [(2, .ref h3), (0, .ref x0), (1, .int (nI 1))]) hx hb dX4_count_7 rfl hl (by decide) rfl (fun ls hl => ?_)
  refine lv_iload_n hx hb dX4_count_8 rfl (lv_at hl 2 rfl) ?_
  by_cases w9_0 : 1 = 0
  · refine rn_top w9_0 ?_
    refine lv_tableIn (off := 43) (tgt := 52) hx hb dX4_count_9 (by decide) (by decide) (by decide) (by decide) ?_
    exact absurd w9_0 (by decide)
  by_cases w9_1 : 1 = 1
  · refine rn_top w9_1 ?_
    refine lv_tableIn (off := 48) (tgt := 57) hx hb dX4_count_9 (by decide) (by decide) (by decide) (by decide) ?_
    refine lv_aload_n hx hb dX4_count_57 rfl (lv_at hl 0 rfl) ?_
    refine va_get (D := (dC, dI)) (ci := 3) (v := .int (nI h)) (C := RX3) (T := TX3) (N := 7) hx hb hts hiX3 hown hK hP 2 rfl rfl 1 (by decide) (hts (.fieldLink RX4 73 "RestRegisters$Wheels" "honest" "I") (by decide +kernel)) (fun _ h9 => h9) rfl dX4_count_58 ?_
    exact rr_iret hx hb hr hlocks dX4_count_61 (rfl)
  by_cases w9_2 : 1 = 2
  · refine rn_top w9_2 ?_
    refine lv_tableIn (off := 53) (tgt := 62) hx hb dX4_count_9 (by decide) (by decide) (by decide) (by decide) ?_
    exact absurd w9_2 (by decide)
  by_cases w9_3 : 1 = 3
  · refine rn_top w9_3 ?_
    refine lv_tableIn (off := 58) (tgt := 67) hx hb dX4_count_9 (by decide) (by decide) (by decide) (by decide) ?_
    exact absurd w9_3 (by decide)
  by_cases w9_4 : 1 = 4
  · refine rn_top w9_4 ?_
    refine lv_tableIn (off := 63) (tgt := 72) hx hb dX4_count_9 (by decide) (by decide) (by decide) (by decide) ?_
    exact absurd w9_4 (by decide)
  by_cases w9_5 : 1 = 5
  · refine rn_top w9_5 ?_
    refine lv_tableIn (off := 71) (tgt := 80) hx hb dX4_count_9 (by decide) (by decide) (by decide) (by decide) ?_
    exact absurd w9_5 (by decide)
  by_cases w9_6 : 1 = 6
  · refine rn_top w9_6 ?_
    refine lv_tableIn (off := 76) (tgt := 85) hx hb dX4_count_9 (by decide) (by decide) (by decide) (by decide) ?_
    exact absurd w9_6 (by decide)
  refine lv_tableOut (tgt := 93) hx hb dX4_count_9 (sw_outN 0 6 (by omega) (by omega)) (by decide) ?_
  exact absurd rfl w9_1
set_option maxHeartbeats 4000000 in
set_option maxRecDepth 100000 in
theorem c_X4_count_2 (l : Launch) (dC : Nat → ClassId) (dI : Nat → Nat → Nat) (cI cJ cS : ClassId) (x0 t0 k0 sa : Nat) (im : Bool) (b0 h3 hk hw hs hrs hpr hpd : Nat) (n h rg sp dr kn nx : Nat) (kf wf sf : Nat → Int32) (Kd Wd Sh Rr Pr Pd : Nat → Nat) (ok : wOk n Kd Wd) (fk : isA n kf Kd) (fw : isA n wf Wd) (fs : isA n sf Sh) (hS : ∀ j, j < n → Sh j < sp) (hsp : sp ≤ 47045881) (hsp0 : 0 < sp) (hR : rOk n Wd Rr) (hrg : rg < 2 ^ 31) : Met l yX4_count wsX4_count ({ frames := 4, cells := 0, slots := 0, locals := 88 }) (va_Pc [.ref x0, .int (nI 2)] (rB (dC, dI) vwCl [(x0, .inr (4, [.ref t0, .ref b0, .ref k0, .int (bi im), .ref sa])), (b0, .inr (0, [.ref h3, .ref hrs, .int (nI dr), .int (nI kn), .int (nI nx), .ref hpr, .ref hpd])), (h3, .inr (3, [.int (nI n), .int (nI h), .int (nI rg), .int (nI sp), .ref hk, .ref hw, .ref hs])), (hk, .inl (cI, 6, .inl kf)), (hw, .inl (cI, 6, .inl wf)), (hs, .inl (cI, 6, .inl sf)), (hrs, .inl (cI, 24, .inl (nA Rr))), (hpr, .inl (cI, 192, .inl (nA Pr))), (hpd, .inl (cI, 8, .inl (nA Pd)))] (tyz cI cJ cS))) (QcRead (nI rg)) 0 0 (fun _ => False) := by
  refine Met.ofW (cc := cX4_count) (maxL := 3) (ret := (some .int)) (by decide) rfl ?_
  intro p e s m args below meth c s₁ B hml hv
  obtain ⟨rfl, hP, hKK⟩ := hv
  have hK := hKK.1
  have hx := B.exec
  have hb := B.bytes
  have hr := B.returns
  have hts := atoms_spec (ws := wsX4_count) B.pre
  have hown : s.vm.findClass RX4 = some m.cls := findClass_of_methodNamed B.named
  have hlocks := B.notSynchronized
  have hiX0 : ∀ w ∈ wsX00, w ∈ wsX4_count := by decide +kernel
  have hiX3 : ∀ w ∈ wsX30, w ∈ wsX4_count := by decide +kernel
  have hiX4 : ∀ w ∈ wsX40, w ∈ wsX4_count := by decide +kernel
  have hl := lv_entry ([.ref x0, .int (nI 2)]) (n := 3) (Nat.le_of_ble_eq_true rfl)
  rw [lg_entry_eq]
  generalize (lg_sl ([.ref x0, .int (nI 2)]) ++ List.replicate (3 - (lg_sl ([.ref x0, .int (nI 2)])).length) Slot.unset).toArray = ls at hl ⊢
  have hl : lv_has ls 3 [(0, .ref x0), (1, .int (nI 2))] := hl
  have hn6 := ok.1
  refine lv_aload_n hx hb dX4_count_0 rfl (lv_at hl 0 rfl) ?_
  refine va_get (D := (dC, dI)) (ci := 4) (v := .ref b0) (C := RX4) (T := TX4) (N := 5) hx hb hts hiX4 hown hK hP 0 rfl rfl 1 (by decide) (hts (.fieldLink RX4 19 "RestRegisters" "now" "LRestRegisters$Bank;") (by decide +kernel)) (fun _ h9 => h9) rfl dX4_count_1 ?_
  refine va_get (D := (dC, dI)) (ci := 0) (v := .ref h3) (C := RX0) (T := TX0) (N := 7) hx hb hts hiX0 hown hK hP 1 rfl rfl 0 (by decide) (hts (.fieldLink RX4 61 "RestRegisters$Bank" "wheels" "LRestRegisters$Wheels;") (by decide +kernel)) (fun _ h9 => h9) rfl dX4_count_4 ?_
  refine lv_astore_n (lv' := [(2, .ref h3), (0, .ref x0), (1, .int (nI 2))]) hx hb dX4_count_7 rfl hl (by decide) rfl (fun ls hl => ?_)
  refine lv_iload_n hx hb dX4_count_8 rfl (lv_at hl 2 rfl) ?_
  by_cases w9_0 : 2 = 0
  · refine rn_top w9_0 ?_
    refine lv_tableIn (off := 43) (tgt := 52) hx hb dX4_count_9 (by decide) (by decide) (by decide) (by decide) ?_
    exact absurd w9_0 (by decide)
  by_cases w9_1 : 2 = 1
  · refine rn_top w9_1 ?_
    refine lv_tableIn (off := 48) (tgt := 57) hx hb dX4_count_9 (by decide) (by decide) (by decide) (by decide) ?_
    exact absurd w9_1 (by decide)
  by_cases w9_2 : 2 = 2
  · refine rn_top w9_2 ?_
    refine lv_tableIn (off := 53) (tgt := 62) hx hb dX4_count_9 (by decide) (by decide) (by decide) (by decide) ?_
    refine lv_aload_n hx hb dX4_count_62 rfl (lv_at hl 0 rfl) ?_
    refine va_get (D := (dC, dI)) (ci := 3) (v := .int (nI rg)) (C := RX3) (T := TX3) (N := 7) hx hb hts hiX3 hown hK hP 2 rfl rfl 2 (by decide) (hts (.fieldLink RX4 107 "RestRegisters$Wheels" "range" "I") (by decide +kernel)) (fun _ h9 => h9) rfl dX4_count_63 ?_
    exact rr_iret hx hb hr hlocks dX4_count_66 (rfl)
  by_cases w9_3 : 2 = 3
  · refine rn_top w9_3 ?_
    refine lv_tableIn (off := 58) (tgt := 67) hx hb dX4_count_9 (by decide) (by decide) (by decide) (by decide) ?_
    exact absurd w9_3 (by decide)
  by_cases w9_4 : 2 = 4
  · refine rn_top w9_4 ?_
    refine lv_tableIn (off := 63) (tgt := 72) hx hb dX4_count_9 (by decide) (by decide) (by decide) (by decide) ?_
    exact absurd w9_4 (by decide)
  by_cases w9_5 : 2 = 5
  · refine rn_top w9_5 ?_
    refine lv_tableIn (off := 71) (tgt := 80) hx hb dX4_count_9 (by decide) (by decide) (by decide) (by decide) ?_
    exact absurd w9_5 (by decide)
  by_cases w9_6 : 2 = 6
  · refine rn_top w9_6 ?_
    refine lv_tableIn (off := 76) (tgt := 85) hx hb dX4_count_9 (by decide) (by decide) (by decide) (by decide) ?_
    exact absurd w9_6 (by decide)
  refine lv_tableOut (tgt := 93) hx hb dX4_count_9 (sw_outN 0 6 (by omega) (by omega)) (by decide) ?_
  exact absurd rfl w9_2
set_option maxHeartbeats 4000000 in
set_option maxRecDepth 100000 in
theorem c_X4_count_3 (l : Launch) (dC : Nat → ClassId) (dI : Nat → Nat → Nat) (cI cJ cS : ClassId) (x0 t0 k0 sa : Nat) (im : Bool) (b0 h3 hk hw hs hrs hpr hpd : Nat) (n h rg sp dr kn nx : Nat) (kf wf sf : Nat → Int32) (Kd Wd Sh Rr Pr Pd : Nat → Nat) (ok : wOk n Kd Wd) (fk : isA n kf Kd) (fw : isA n wf Wd) (fs : isA n sf Sh) (hS : ∀ j, j < n → Sh j < sp) (hsp : sp ≤ 47045881) (hsp0 : 0 < sp) (hR : rOk n Wd Rr) (hrg : rg < 2 ^ 31) : Met l yX4_count wsX4_count ({ frames := 4, cells := 0, slots := 0, locals := 88 }) (va_Pc [.ref x0, .int (nI 3)] (rB (dC, dI) vwCl [(x0, .inr (4, [.ref t0, .ref b0, .ref k0, .int (bi im), .ref sa])), (b0, .inr (0, [.ref h3, .ref hrs, .int (nI dr), .int (nI kn), .int (nI nx), .ref hpr, .ref hpd])), (h3, .inr (3, [.int (nI n), .int (nI h), .int (nI rg), .int (nI sp), .ref hk, .ref hw, .ref hs])), (hk, .inl (cI, 6, .inl kf)), (hw, .inl (cI, 6, .inl wf)), (hs, .inl (cI, 6, .inl sf)), (hrs, .inl (cI, 24, .inl (nA Rr))), (hpr, .inl (cI, 192, .inl (nA Pr))), (hpd, .inl (cI, 8, .inl (nA Pd)))] (tyz cI cJ cS))) (QcRead (nI sp)) 0 0 (fun _ => False) := by
  refine Met.ofW (cc := cX4_count) (maxL := 3) (ret := (some .int)) (by decide) rfl ?_
  intro p e s m args below meth c s₁ B hml hv
  obtain ⟨rfl, hP, hKK⟩ := hv
  have hK := hKK.1
  have hx := B.exec
  have hb := B.bytes
  have hr := B.returns
  have hts := atoms_spec (ws := wsX4_count) B.pre
  have hown : s.vm.findClass RX4 = some m.cls := findClass_of_methodNamed B.named
  have hlocks := B.notSynchronized
  have hiX0 : ∀ w ∈ wsX00, w ∈ wsX4_count := by decide +kernel
  have hiX3 : ∀ w ∈ wsX30, w ∈ wsX4_count := by decide +kernel
  have hiX4 : ∀ w ∈ wsX40, w ∈ wsX4_count := by decide +kernel
  have hl := lv_entry ([.ref x0, .int (nI 3)]) (n := 3) (Nat.le_of_ble_eq_true rfl)
  rw [lg_entry_eq]
  generalize (lg_sl ([.ref x0, .int (nI 3)]) ++ List.replicate (3 - (lg_sl ([.ref x0, .int (nI 3)])).length) Slot.unset).toArray = ls at hl ⊢
  have hl : lv_has ls 3 [(0, .ref x0), (1, .int (nI 3))] := hl
  have hn6 := ok.1
  refine lv_aload_n hx hb dX4_count_0 rfl (lv_at hl 0 rfl) ?_
  refine va_get (D := (dC, dI)) (ci := 4) (v := .ref b0) (C := RX4) (T := TX4) (N := 5) hx hb hts hiX4 hown hK hP 0 rfl rfl 1 (by decide) (hts (.fieldLink RX4 19 "RestRegisters" "now" "LRestRegisters$Bank;") (by decide +kernel)) (fun _ h9 => h9) rfl dX4_count_1 ?_
  refine va_get (D := (dC, dI)) (ci := 0) (v := .ref h3) (C := RX0) (T := TX0) (N := 7) hx hb hts hiX0 hown hK hP 1 rfl rfl 0 (by decide) (hts (.fieldLink RX4 61 "RestRegisters$Bank" "wheels" "LRestRegisters$Wheels;") (by decide +kernel)) (fun _ h9 => h9) rfl dX4_count_4 ?_
  refine lv_astore_n (lv' := [(2, .ref h3), (0, .ref x0), (1, .int (nI 3))]) hx hb dX4_count_7 rfl hl (by decide) rfl (fun ls hl => ?_)
  refine lv_iload_n hx hb dX4_count_8 rfl (lv_at hl 2 rfl) ?_
  by_cases w9_0 : 3 = 0
  · refine rn_top w9_0 ?_
    refine lv_tableIn (off := 43) (tgt := 52) hx hb dX4_count_9 (by decide) (by decide) (by decide) (by decide) ?_
    exact absurd w9_0 (by decide)
  by_cases w9_1 : 3 = 1
  · refine rn_top w9_1 ?_
    refine lv_tableIn (off := 48) (tgt := 57) hx hb dX4_count_9 (by decide) (by decide) (by decide) (by decide) ?_
    exact absurd w9_1 (by decide)
  by_cases w9_2 : 3 = 2
  · refine rn_top w9_2 ?_
    refine lv_tableIn (off := 53) (tgt := 62) hx hb dX4_count_9 (by decide) (by decide) (by decide) (by decide) ?_
    exact absurd w9_2 (by decide)
  by_cases w9_3 : 3 = 3
  · refine rn_top w9_3 ?_
    refine lv_tableIn (off := 58) (tgt := 67) hx hb dX4_count_9 (by decide) (by decide) (by decide) (by decide) ?_
    refine lv_aload_n hx hb dX4_count_67 rfl (lv_at hl 0 rfl) ?_
    refine va_get (D := (dC, dI)) (ci := 3) (v := .int (nI sp)) (C := RX3) (T := TX3) (N := 7) hx hb hts hiX3 hown hK hP 2 rfl rfl 3 (by decide) (hts (.fieldLink RX4 110 "RestRegisters$Wheels" "span" "I") (by decide +kernel)) (fun _ h9 => h9) rfl dX4_count_68 ?_
    exact rr_iret hx hb hr hlocks dX4_count_71 (rfl)
  by_cases w9_4 : 3 = 4
  · refine rn_top w9_4 ?_
    refine lv_tableIn (off := 63) (tgt := 72) hx hb dX4_count_9 (by decide) (by decide) (by decide) (by decide) ?_
    exact absurd w9_4 (by decide)
  by_cases w9_5 : 3 = 5
  · refine rn_top w9_5 ?_
    refine lv_tableIn (off := 71) (tgt := 80) hx hb dX4_count_9 (by decide) (by decide) (by decide) (by decide) ?_
    exact absurd w9_5 (by decide)
  by_cases w9_6 : 3 = 6
  · refine rn_top w9_6 ?_
    refine lv_tableIn (off := 76) (tgt := 85) hx hb dX4_count_9 (by decide) (by decide) (by decide) (by decide) ?_
    exact absurd w9_6 (by decide)
  refine lv_tableOut (tgt := 93) hx hb dX4_count_9 (sw_outN 0 6 (by omega) (by omega)) (by decide) ?_
  exact absurd rfl w9_3
set_option maxHeartbeats 4000000 in
set_option maxRecDepth 100000 in
theorem c_X4_count_4 (l : Launch) (dC : Nat → ClassId) (dI : Nat → Nat → Nat) (cI cJ cS : ClassId) (x0 t0 k0 sa : Nat) (im : Bool) (b0 h3 hk hw hs hrs hpr hpd : Nat) (n h rg sp dr kn nx : Nat) (kf wf sf : Nat → Int32) (Kd Wd Sh Rr Pr Pd : Nat → Nat) (ok : wOk n Kd Wd) (fk : isA n kf Kd) (fw : isA n wf Wd) (fs : isA n sf Sh) (hS : ∀ j, j < n → Sh j < sp) (hsp : sp ≤ 47045881) (hsp0 : 0 < sp) (hR : rOk n Wd Rr) (hrg : rg < 2 ^ 31) : Met l yX4_count wsX4_count ({ frames := 4, cells := 0, slots := 0, locals := 88 }) (va_Pc [.ref x0, .int (nI 4)] (rB (dC, dI) vwCl [(x0, .inr (4, [.ref t0, .ref b0, .ref k0, .int (bi im), .ref sa])), (b0, .inr (0, [.ref h3, .ref hrs, .int (nI dr), .int (nI kn), .int (nI nx), .ref hpr, .ref hpd])), (h3, .inr (3, [.int (nI n), .int (nI h), .int (nI rg), .int (nI sp), .ref hk, .ref hw, .ref hs])), (hk, .inl (cI, 6, .inl kf)), (hw, .inl (cI, 6, .inl wf)), (hs, .inl (cI, 6, .inl sf)), (hrs, .inl (cI, 24, .inl (nA Rr))), (hpr, .inl (cI, 192, .inl (nA Pr))), (hpd, .inl (cI, 8, .inl (nA Pd)))] (tyz cI cJ cS))) (QcRead (nI (orS (fun r => decide (vR Sh Rr sp n r < rg)) 4))) 0 0 (fun _ => False) := by
  refine Met.ofW (cc := cX4_count) (maxL := 3) (ret := (some .int)) (by decide) rfl ?_
  intro p e s m args below meth c s₁ B hml hv
  obtain ⟨rfl, hP, hKK⟩ := hv
  have hK := hKK.1
  have hx := B.exec
  have hb := B.bytes
  have hr := B.returns
  have hts := atoms_spec (ws := wsX4_count) B.pre
  have hown : s.vm.findClass RX4 = some m.cls := findClass_of_methodNamed B.named
  have hlocks := B.notSynchronized
  have hiX0 : ∀ w ∈ wsX00, w ∈ wsX4_count := by decide +kernel
  have hiX3 : ∀ w ∈ wsX30, w ∈ wsX4_count := by decide +kernel
  have hiX4 : ∀ w ∈ wsX40, w ∈ wsX4_count := by decide +kernel
  have hl := lv_entry ([.ref x0, .int (nI 4)]) (n := 3) (Nat.le_of_ble_eq_true rfl)
  rw [lg_entry_eq]
  generalize (lg_sl ([.ref x0, .int (nI 4)]) ++ List.replicate (3 - (lg_sl ([.ref x0, .int (nI 4)])).length) Slot.unset).toArray = ls at hl ⊢
  have hl : lv_has ls 3 [(0, .ref x0), (1, .int (nI 4))] := hl
  have hn6 := ok.1
  refine lv_aload_n hx hb dX4_count_0 rfl (lv_at hl 0 rfl) ?_
  refine va_get (D := (dC, dI)) (ci := 4) (v := .ref b0) (C := RX4) (T := TX4) (N := 5) hx hb hts hiX4 hown hK hP 0 rfl rfl 1 (by decide) (hts (.fieldLink RX4 19 "RestRegisters" "now" "LRestRegisters$Bank;") (by decide +kernel)) (fun _ h9 => h9) rfl dX4_count_1 ?_
  refine va_get (D := (dC, dI)) (ci := 0) (v := .ref h3) (C := RX0) (T := TX0) (N := 7) hx hb hts hiX0 hown hK hP 1 rfl rfl 0 (by decide) (hts (.fieldLink RX4 61 "RestRegisters$Bank" "wheels" "LRestRegisters$Wheels;") (by decide +kernel)) (fun _ h9 => h9) rfl dX4_count_4 ?_
  refine lv_astore_n (lv' := [(2, .ref h3), (0, .ref x0), (1, .int (nI 4))]) hx hb dX4_count_7 rfl hl (by decide) rfl (fun ls hl => ?_)
  refine lv_iload_n hx hb dX4_count_8 rfl (lv_at hl 2 rfl) ?_
  by_cases w9_0 : 4 = 0
  · refine rn_top w9_0 ?_
    refine lv_tableIn (off := 43) (tgt := 52) hx hb dX4_count_9 (by decide) (by decide) (by decide) (by decide) ?_
    exact absurd w9_0 (by decide)
  by_cases w9_1 : 4 = 1
  · refine rn_top w9_1 ?_
    refine lv_tableIn (off := 48) (tgt := 57) hx hb dX4_count_9 (by decide) (by decide) (by decide) (by decide) ?_
    exact absurd w9_1 (by decide)
  by_cases w9_2 : 4 = 2
  · refine rn_top w9_2 ?_
    refine lv_tableIn (off := 53) (tgt := 62) hx hb dX4_count_9 (by decide) (by decide) (by decide) (by decide) ?_
    exact absurd w9_2 (by decide)
  by_cases w9_3 : 4 = 3
  · refine rn_top w9_3 ?_
    refine lv_tableIn (off := 58) (tgt := 67) hx hb dX4_count_9 (by decide) (by decide) (by decide) (by decide) ?_
    exact absurd w9_3 (by decide)
  by_cases w9_4 : 4 = 4
  · refine rn_top w9_4 ?_
    refine lv_tableIn (off := 63) (tgt := 72) hx hb dX4_count_9 (by decide) (by decide) (by decide) (by decide) ?_
    refine lv_aload_n hx hb dX4_count_72 rfl (lv_at hl 1 rfl) ?_
    refine va_get (D := (dC, dI)) (ci := 4) (v := .ref b0) (C := RX4) (T := TX4) (N := 5) hx hb hts hiX4 hown hK hP 0 rfl rfl 1 (by decide) (hts (.fieldLink RX4 19 "RestRegisters" "now" "LRestRegisters$Bank;") (by decide +kernel)) (fun _ h9 => h9) rfl dX4_count_73 ?_
    refine rr_callR (va_runV (As := []) (rest := []) ⟨hx, hb, hml, hown, hts⟩ (c_X0_legalOnes l dC dI cI cJ cS b0 h3 hk hw hs hrs hpr hpd n h rg sp dr kn nx kf wf sf Kd Wd Sh Rr Pr Pd (by first | assumption | omega) (by first | assumption | omega) (by first | assumption | omega) (by first | assumption | omega) (by first | assumption | omega) (by first | assumption | omega) (by first | assumption | omega)) (cwV 0 hts gX4_count_X0_legalOnes rfl rfl rfl (by decide +kernel) ⟨Nat.le_of_ble_eq_true rfl, Nat.le_of_ble_eq_true rfl⟩) (rr_preV hKK (hP.sub [1, 2, 3, 4, 5, 6, 7, 8] rfl) rfl rfl) rfl rfl hl.1 rfl (lv_room (Nat.le_of_ble_eq_true rfl)) dX4_count_76 ⟨Nat.zero_le _, Nat.zero_le _⟩) ?_
    exact rr_iret hx hb hr hlocks dX4_count_79 (rfl)
  by_cases w9_5 : 4 = 5
  · refine rn_top w9_5 ?_
    refine lv_tableIn (off := 71) (tgt := 80) hx hb dX4_count_9 (by decide) (by decide) (by decide) (by decide) ?_
    exact absurd w9_5 (by decide)
  by_cases w9_6 : 4 = 6
  · refine rn_top w9_6 ?_
    refine lv_tableIn (off := 76) (tgt := 85) hx hb dX4_count_9 (by decide) (by decide) (by decide) (by decide) ?_
    exact absurd w9_6 (by decide)
  refine lv_tableOut (tgt := 93) hx hb dX4_count_9 (sw_outN 0 6 (by omega) (by omega)) (by decide) ?_
  exact absurd rfl w9_4
set_option maxHeartbeats 4000000 in
set_option maxRecDepth 100000 in
theorem c_X4_count_5 (l : Launch) (dC : Nat → ClassId) (dI : Nat → Nat → Nat) (cI cJ cS : ClassId) (x0 t0 k0 sa : Nat) (im : Bool) (b0 h3 hk hw hs hrs hpr hpd : Nat) (n h rg sp dr kn nx : Nat) (kf wf sf : Nat → Int32) (Kd Wd Sh Rr Pr Pd : Nat → Nat) (ok : wOk n Kd Wd) (fk : isA n kf Kd) (fw : isA n wf Wd) (fs : isA n sf Sh) (hS : ∀ j, j < n → Sh j < sp) (hsp : sp ≤ 47045881) (hsp0 : 0 < sp) (hR : rOk n Wd Rr) (hrg : rg < 2 ^ 31) : Met l yX4_count wsX4_count ({ frames := 4, cells := 0, slots := 0, locals := 88 }) (va_Pc [.ref x0, .int (nI 5)] (rB (dC, dI) vwCl [(x0, .inr (4, [.ref t0, .ref b0, .ref k0, .int (bi im), .ref sa])), (b0, .inr (0, [.ref h3, .ref hrs, .int (nI dr), .int (nI kn), .int (nI nx), .ref hpr, .ref hpd])), (h3, .inr (3, [.int (nI n), .int (nI h), .int (nI rg), .int (nI sp), .ref hk, .ref hw, .ref hs])), (hk, .inl (cI, 6, .inl kf)), (hw, .inl (cI, 6, .inl wf)), (hs, .inl (cI, 6, .inl sf)), (hrs, .inl (cI, 24, .inl (nA Rr))), (hpr, .inl (cI, 192, .inl (nA Pr))), (hpd, .inl (cI, 8, .inl (nA Pd)))] (tyz cI cJ cS))) (QcRead (nI (orS (fun j => decide (Kd j = 0)) n))) 0 0 (fun _ => False) := by
  refine Met.ofW (cc := cX4_count) (maxL := 3) (ret := (some .int)) (by decide) rfl ?_
  intro p e s m args below meth c s₁ B hml hv
  obtain ⟨rfl, hP, hKK⟩ := hv
  have hK := hKK.1
  have hx := B.exec
  have hb := B.bytes
  have hr := B.returns
  have hts := atoms_spec (ws := wsX4_count) B.pre
  have hown : s.vm.findClass RX4 = some m.cls := findClass_of_methodNamed B.named
  have hlocks := B.notSynchronized
  have hiX0 : ∀ w ∈ wsX00, w ∈ wsX4_count := by decide +kernel
  have hiX3 : ∀ w ∈ wsX30, w ∈ wsX4_count := by decide +kernel
  have hiX4 : ∀ w ∈ wsX40, w ∈ wsX4_count := by decide +kernel
  have hl := lv_entry ([.ref x0, .int (nI 5)]) (n := 3) (Nat.le_of_ble_eq_true rfl)
  rw [lg_entry_eq]
  generalize (lg_sl ([.ref x0, .int (nI 5)]) ++ List.replicate (3 - (lg_sl ([.ref x0, .int (nI 5)])).length) Slot.unset).toArray = ls at hl ⊢
  have hl : lv_has ls 3 [(0, .ref x0), (1, .int (nI 5))] := hl
  have hn6 := ok.1
  refine lv_aload_n hx hb dX4_count_0 rfl (lv_at hl 0 rfl) ?_
  refine va_get (D := (dC, dI)) (ci := 4) (v := .ref b0) (C := RX4) (T := TX4) (N := 5) hx hb hts hiX4 hown hK hP 0 rfl rfl 1 (by decide) (hts (.fieldLink RX4 19 "RestRegisters" "now" "LRestRegisters$Bank;") (by decide +kernel)) (fun _ h9 => h9) rfl dX4_count_1 ?_
  refine va_get (D := (dC, dI)) (ci := 0) (v := .ref h3) (C := RX0) (T := TX0) (N := 7) hx hb hts hiX0 hown hK hP 1 rfl rfl 0 (by decide) (hts (.fieldLink RX4 61 "RestRegisters$Bank" "wheels" "LRestRegisters$Wheels;") (by decide +kernel)) (fun _ h9 => h9) rfl dX4_count_4 ?_
  refine lv_astore_n (lv' := [(2, .ref h3), (0, .ref x0), (1, .int (nI 5))]) hx hb dX4_count_7 rfl hl (by decide) rfl (fun ls hl => ?_)
  refine lv_iload_n hx hb dX4_count_8 rfl (lv_at hl 2 rfl) ?_
  by_cases w9_0 : 5 = 0
  · refine rn_top w9_0 ?_
    refine lv_tableIn (off := 43) (tgt := 52) hx hb dX4_count_9 (by decide) (by decide) (by decide) (by decide) ?_
    exact absurd w9_0 (by decide)
  by_cases w9_1 : 5 = 1
  · refine rn_top w9_1 ?_
    refine lv_tableIn (off := 48) (tgt := 57) hx hb dX4_count_9 (by decide) (by decide) (by decide) (by decide) ?_
    exact absurd w9_1 (by decide)
  by_cases w9_2 : 5 = 2
  · refine rn_top w9_2 ?_
    refine lv_tableIn (off := 53) (tgt := 62) hx hb dX4_count_9 (by decide) (by decide) (by decide) (by decide) ?_
    exact absurd w9_2 (by decide)
  by_cases w9_3 : 5 = 3
  · refine rn_top w9_3 ?_
    refine lv_tableIn (off := 58) (tgt := 67) hx hb dX4_count_9 (by decide) (by decide) (by decide) (by decide) ?_
    exact absurd w9_3 (by decide)
  by_cases w9_4 : 5 = 4
  · refine rn_top w9_4 ?_
    refine lv_tableIn (off := 63) (tgt := 72) hx hb dX4_count_9 (by decide) (by decide) (by decide) (by decide) ?_
    exact absurd w9_4 (by decide)
  by_cases w9_5 : 5 = 5
  · refine rn_top w9_5 ?_
    refine lv_tableIn (off := 71) (tgt := 80) hx hb dX4_count_9 (by decide) (by decide) (by decide) (by decide) ?_
    refine lv_aload_n hx hb dX4_count_80 rfl (lv_at hl 0 rfl) ?_
    refine rr_callR (va_runV (As := []) (rest := []) ⟨hx, hb, hml, hown, hts⟩ (c_X3_plainOnes l dC dI cI cJ cS h3 hk hw hs n h rg sp kf wf sf Kd Wd Sh (by first | assumption | omega) (by first | assumption | omega)) (cwV 0 hts gX4_count_X3_plainOnes rfl rfl rfl (by decide +kernel) ⟨Nat.le_of_ble_eq_true rfl, Nat.le_of_ble_eq_true rfl⟩) (rr_preV hKK (hP.sub [2, 3, 4, 5] rfl) rfl rfl) rfl rfl hl.1 rfl (lv_room (Nat.le_of_ble_eq_true rfl)) dX4_count_81 ⟨Nat.zero_le _, Nat.zero_le _⟩) ?_
    exact rr_iret hx hb hr hlocks dX4_count_84 (rfl)
  by_cases w9_6 : 5 = 6
  · refine rn_top w9_6 ?_
    refine lv_tableIn (off := 76) (tgt := 85) hx hb dX4_count_9 (by decide) (by decide) (by decide) (by decide) ?_
    exact absurd w9_6 (by decide)
  refine lv_tableOut (tgt := 93) hx hb dX4_count_9 (sw_outN 0 6 (by omega) (by omega)) (by decide) ?_
  exact absurd rfl w9_5
set_option maxHeartbeats 4000000 in
set_option maxRecDepth 100000 in
theorem c_X4_count_6 (l : Launch) (dC : Nat → ClassId) (dI : Nat → Nat → Nat) (cI cJ cS : ClassId) (x0 t0 k0 sa : Nat) (im : Bool) (b0 h3 hk hw hs hrs hpr hpd : Nat) (n h rg sp dr kn nx : Nat) (kf wf sf : Nat → Int32) (Kd Wd Sh Rr Pr Pd : Nat → Nat) (ok : wOk n Kd Wd) (fk : isA n kf Kd) (fw : isA n wf Wd) (fs : isA n sf Sh) (hS : ∀ j, j < n → Sh j < sp) (hsp : sp ≤ 47045881) (hsp0 : 0 < sp) (hR : rOk n Wd Rr) (hrg : rg < 2 ^ 31) : Met l yX4_count wsX4_count ({ frames := 4, cells := 0, slots := 0, locals := 88 }) (va_Pc [.ref x0, .int (nI 6)] (rB (dC, dI) vwCl [(x0, .inr (4, [.ref t0, .ref b0, .ref k0, .int (bi im), .ref sa])), (b0, .inr (0, [.ref h3, .ref hrs, .int (nI dr), .int (nI kn), .int (nI nx), .ref hpr, .ref hpd])), (h3, .inr (3, [.int (nI n), .int (nI h), .int (nI rg), .int (nI sp), .ref hk, .ref hw, .ref hs])), (hk, .inl (cI, 6, .inl kf)), (hw, .inl (cI, 6, .inl wf)), (hs, .inl (cI, 6, .inl sf)), (hrs, .inl (cI, 24, .inl (nA Rr))), (hpr, .inl (cI, 192, .inl (nA Pr))), (hpd, .inl (cI, 8, .inl (nA Pd)))] (tyz cI cJ cS))) (QcRead (nI kn)) 0 0 (fun _ => False) := by
  refine Met.ofW (cc := cX4_count) (maxL := 3) (ret := (some .int)) (by decide) rfl ?_
  intro p e s m args below meth c s₁ B hml hv
  obtain ⟨rfl, hP, hKK⟩ := hv
  have hK := hKK.1
  have hx := B.exec
  have hb := B.bytes
  have hr := B.returns
  have hts := atoms_spec (ws := wsX4_count) B.pre
  have hown : s.vm.findClass RX4 = some m.cls := findClass_of_methodNamed B.named
  have hlocks := B.notSynchronized
  have hiX0 : ∀ w ∈ wsX00, w ∈ wsX4_count := by decide +kernel
  have hiX3 : ∀ w ∈ wsX30, w ∈ wsX4_count := by decide +kernel
  have hiX4 : ∀ w ∈ wsX40, w ∈ wsX4_count := by decide +kernel
  have hl := lv_entry ([.ref x0, .int (nI 6)]) (n := 3) (Nat.le_of_ble_eq_true rfl)
  rw [lg_entry_eq]
  generalize (lg_sl ([.ref x0, .int (nI 6)]) ++ List.replicate (3 - (lg_sl ([.ref x0, .int (nI 6)])).length) Slot.unset).toArray = ls at hl ⊢
  have hl : lv_has ls 3 [(0, .ref x0), (1, .int (nI 6))] := hl
  have hn6 := ok.1
  refine lv_aload_n hx hb dX4_count_0 rfl (lv_at hl 0 rfl) ?_
  refine va_get (D := (dC, dI)) (ci := 4) (v := .ref b0) (C := RX4) (T := TX4) (N := 5) hx hb hts hiX4 hown hK hP 0 rfl rfl 1 (by decide) (hts (.fieldLink RX4 19 "RestRegisters" "now" "LRestRegisters$Bank;") (by decide +kernel)) (fun _ h9 => h9) rfl dX4_count_1 ?_
  refine va_get (D := (dC, dI)) (ci := 0) (v := .ref h3) (C := RX0) (T := TX0) (N := 7) hx hb hts hiX0 hown hK hP 1 rfl rfl 0 (by decide) (hts (.fieldLink RX4 61 "RestRegisters$Bank" "wheels" "LRestRegisters$Wheels;") (by decide +kernel)) (fun _ h9 => h9) rfl dX4_count_4 ?_
  refine lv_astore_n (lv' := [(2, .ref h3), (0, .ref x0), (1, .int (nI 6))]) hx hb dX4_count_7 rfl hl (by decide) rfl (fun ls hl => ?_)
  refine lv_iload_n hx hb dX4_count_8 rfl (lv_at hl 2 rfl) ?_
  by_cases w9_0 : 6 = 0
  · refine rn_top w9_0 ?_
    refine lv_tableIn (off := 43) (tgt := 52) hx hb dX4_count_9 (by decide) (by decide) (by decide) (by decide) ?_
    exact absurd w9_0 (by decide)
  by_cases w9_1 : 6 = 1
  · refine rn_top w9_1 ?_
    refine lv_tableIn (off := 48) (tgt := 57) hx hb dX4_count_9 (by decide) (by decide) (by decide) (by decide) ?_
    exact absurd w9_1 (by decide)
  by_cases w9_2 : 6 = 2
  · refine rn_top w9_2 ?_
    refine lv_tableIn (off := 53) (tgt := 62) hx hb dX4_count_9 (by decide) (by decide) (by decide) (by decide) ?_
    exact absurd w9_2 (by decide)
  by_cases w9_3 : 6 = 3
  · refine rn_top w9_3 ?_
    refine lv_tableIn (off := 58) (tgt := 67) hx hb dX4_count_9 (by decide) (by decide) (by decide) (by decide) ?_
    exact absurd w9_3 (by decide)
  by_cases w9_4 : 6 = 4
  · refine rn_top w9_4 ?_
    refine lv_tableIn (off := 63) (tgt := 72) hx hb dX4_count_9 (by decide) (by decide) (by decide) (by decide) ?_
    exact absurd w9_4 (by decide)
  by_cases w9_5 : 6 = 5
  · refine rn_top w9_5 ?_
    refine lv_tableIn (off := 71) (tgt := 80) hx hb dX4_count_9 (by decide) (by decide) (by decide) (by decide) ?_
    exact absurd w9_5 (by decide)
  by_cases w9_6 : 6 = 6
  · refine rn_top w9_6 ?_
    refine lv_tableIn (off := 76) (tgt := 85) hx hb dX4_count_9 (by decide) (by decide) (by decide) (by decide) ?_
    refine lv_aload_n hx hb dX4_count_85 rfl (lv_at hl 1 rfl) ?_
    refine va_get (D := (dC, dI)) (ci := 4) (v := .ref b0) (C := RX4) (T := TX4) (N := 5) hx hb hts hiX4 hown hK hP 0 rfl rfl 1 (by decide) (hts (.fieldLink RX4 19 "RestRegisters" "now" "LRestRegisters$Bank;") (by decide +kernel)) (fun _ h9 => h9) rfl dX4_count_86 ?_
    refine va_get (D := (dC, dI)) (ci := 0) (v := .int (nI kn)) (C := RX0) (T := TX0) (N := 7) hx hb hts hiX0 hown hK hP 1 rfl rfl 3 (by decide) (hts (.fieldLink RX4 119 "RestRegisters$Bank" "known" "I") (by decide +kernel)) (fun _ h9 => h9) rfl dX4_count_89 ?_
    exact rr_iret hx hb hr hlocks dX4_count_92 (rfl)
  refine lv_tableOut (tgt := 93) hx hb dX4_count_9 (sw_outN 0 6 (by omega) (by omega)) (by decide) ?_
  exact absurd rfl w9_6
set_option maxHeartbeats 4000000 in
set_option maxRecDepth 100000 in
theorem c_X4_count_b (l : Launch) (dC : Nat → ClassId) (dI : Nat → Nat → Nat) (cI cJ cS : ClassId) (x0 t0 k0 sa : Nat) (im : Bool) (b0 h3 hk hw hs hrs hpr hpd : Nat) (n h rg sp dr kn nx : Nat) (kf wf sf : Nat → Int32) (Kd Wd Sh Rr Pr Pd : Nat → Nat) (y : Int32) (ok : wOk n Kd Wd) (fw : isA n wf Wd) (hbad : (inb y 7) = false) : Met l yX4_count wsX4_count ({ frames := 4, cells := 0, slots := 0, locals := 88 }) (va_Pc [.ref x0, .int y] (rB (dC, dI) vwCl [(x0, .inr (4, [.ref t0, .ref b0, .ref k0, .int (bi im), .ref sa])), (b0, .inr (0, [.ref h3, .ref hrs, .int (nI dr), .int (nI kn), .int (nI nx), .ref hpr, .ref hpd])), (h3, .inr (3, [.int (nI n), .int (nI h), .int (nI rg), .int (nI sp), .ref hk, .ref hw, .ref hs])), (hk, .inl (cI, 6, .inl kf)), (hw, .inl (cI, 6, .inl wf)), (hs, .inl (cI, 6, .inl sf)), (hrs, .inl (cI, 24, .inl (nA Rr))), (hpr, .inl (cI, 192, .inl (nA Pr))), (hpd, .inl (cI, 8, .inl (nA Pd)))] (tyz cI cJ cS))) (QcRead (-1)) 0 0 (fun _ => False) := by
  refine Met.ofW (cc := cX4_count) (maxL := 3) (ret := (some .int)) (by decide) rfl ?_
  intro p e s m args below meth c s₁ B hml hv
  obtain ⟨rfl, hP, hKK⟩ := hv
  have hK := hKK.1
  have hx := B.exec
  have hb := B.bytes
  have hr := B.returns
  have hts := atoms_spec (ws := wsX4_count) B.pre
  have hown : s.vm.findClass RX4 = some m.cls := findClass_of_methodNamed B.named
  have hlocks := B.notSynchronized
  have hiX0 : ∀ w ∈ wsX00, w ∈ wsX4_count := by decide +kernel
  have hiX3 : ∀ w ∈ wsX30, w ∈ wsX4_count := by decide +kernel
  have hiX4 : ∀ w ∈ wsX40, w ∈ wsX4_count := by decide +kernel
  have hl := lv_entry ([.ref x0, .int y]) (n := 3) (Nat.le_of_ble_eq_true rfl)
  rw [lg_entry_eq]
  generalize (lg_sl ([.ref x0, .int y]) ++ List.replicate (3 - (lg_sl ([.ref x0, .int y])).length) Slot.unset).toArray = ls at hl ⊢
  have hl : lv_has ls 3 [(0, .ref x0), (1, .int y)] := hl
  have hn6 := ok.1
  refine lv_aload_n hx hb dX4_count_0 rfl (lv_at hl 0 rfl) ?_
  refine va_get (D := (dC, dI)) (ci := 4) (v := .ref b0) (C := RX4) (T := TX4) (N := 5) hx hb hts hiX4 hown hK hP 0 rfl rfl 1 (by decide) (hts (.fieldLink RX4 19 "RestRegisters" "now" "LRestRegisters$Bank;") (by decide +kernel)) (fun _ h9 => h9) rfl dX4_count_1 ?_
  refine va_get (D := (dC, dI)) (ci := 0) (v := .ref h3) (C := RX0) (T := TX0) (N := 7) hx hb hts hiX0 hown hK hP 1 rfl rfl 0 (by decide) (hts (.fieldLink RX4 61 "RestRegisters$Bank" "wheels" "LRestRegisters$Wheels;") (by decide +kernel)) (fun _ h9 => h9) rfl dX4_count_4 ?_
  refine lv_astore_n (lv' := [(2, .ref h3), (0, .ref x0), (1, .int y)]) hx hb dX4_count_7 rfl hl (by decide) rfl (fun ls hl => ?_)
  refine lv_iload_n hx hb dX4_count_8 rfl (lv_at hl 2 rfl) ?_
  by_cases w9_0 : y = nI 0
  · refine rr_top w9_0 ?_
    refine lv_tableIn (off := 43) (tgt := 52) hx hb dX4_count_9 (by decide) (by decide) (by decide) (by decide) ?_
    exact absurd hbad (by rw [w9_0]; decide)
  by_cases w9_1 : y = nI 1
  · refine rr_top w9_1 ?_
    refine lv_tableIn (off := 48) (tgt := 57) hx hb dX4_count_9 (by decide) (by decide) (by decide) (by decide) ?_
    exact absurd hbad (by rw [w9_1]; decide)
  by_cases w9_2 : y = nI 2
  · refine rr_top w9_2 ?_
    refine lv_tableIn (off := 53) (tgt := 62) hx hb dX4_count_9 (by decide) (by decide) (by decide) (by decide) ?_
    exact absurd hbad (by rw [w9_2]; decide)
  by_cases w9_3 : y = nI 3
  · refine rr_top w9_3 ?_
    refine lv_tableIn (off := 58) (tgt := 67) hx hb dX4_count_9 (by decide) (by decide) (by decide) (by decide) ?_
    exact absurd hbad (by rw [w9_3]; decide)
  by_cases w9_4 : y = nI 4
  · refine rr_top w9_4 ?_
    refine lv_tableIn (off := 63) (tgt := 72) hx hb dX4_count_9 (by decide) (by decide) (by decide) (by decide) ?_
    exact absurd hbad (by rw [w9_4]; decide)
  by_cases w9_5 : y = nI 5
  · refine rr_top w9_5 ?_
    refine lv_tableIn (off := 71) (tgt := 80) hx hb dX4_count_9 (by decide) (by decide) (by decide) (by decide) ?_
    exact absurd hbad (by rw [w9_5]; decide)
  by_cases w9_6 : y = nI 6
  · refine rr_top w9_6 ?_
    refine lv_tableIn (off := 76) (tgt := 85) hx hb dX4_count_9 (by decide) (by decide) (by decide) (by decide) ?_
    exact absurd hbad (by rw [w9_6]; decide)
  refine lv_tableOut (tgt := 93) hx hb dX4_count_9 (sw_out 0 6 (fun k h1 h2 => by rcases (show k = 0 ∨ k = 1 ∨ k = 2 ∨ k = 3 ∨ k = 4 ∨ k = 5 ∨ k = 6 by omega) with rfl | rfl | rfl | rfl | rfl | rfl | rfl <;> assumption)) (by decide) ?_
  refine lv_iconst (v := (-1)) hx hb dX4_count_93 (by decide) ?_
  exact rr_iret hx hb hr hlocks dX4_count_94 (rfl)
set_option maxHeartbeats 4000000 in
set_option maxRecDepth 100000 in
theorem c_X4_nearest_0 (l : Launch) (dC : Nat → ClassId) (dI : Nat → Nat → Nat) (cI cJ cS : ClassId) (x0 t0 k0 sa : Nat) (im : Bool) (b0 h3 hk hw hs hrs hpr hpd : Nat) (n h rg sp dr kn nx : Nat) (kf wf sf : Nat → Int32) (Kd Wd Sh Rr Pr Pd : Nat → Nat) (r : Nat) (ok : wOk n Kd Wd) (fk : isA n kf Kd) (fw : isA n wf Wd) (fs : isA n sf Sh) (hS : ∀ j, j < n → Sh j < sp) (hsp : sp ≤ 47045881) (hsp0 : 0 < sp) (hR : rOk n Wd Rr) (hrg : rg < 2 ^ 31) (hr4 : r < 4) : Met l yX4_nearest wsX4_nearest ({ frames := 3, cells := 0, slots := 0, locals := 68 }) (va_Pc [.ref x0, .int (nI r), .int (nI 0)] (rB (dC, dI) vwCl [(x0, .inr (4, [.ref t0, .ref b0, .ref k0, .int (bi im), .ref sa])), (b0, .inr (0, [.ref h3, .ref hrs, .int (nI dr), .int (nI kn), .int (nI nx), .ref hpr, .ref hpd])), (h3, .inr (3, [.int (nI n), .int (nI h), .int (nI rg), .int (nI sp), .ref hk, .ref hw, .ref hs])), (hk, .inl (cI, 6, .inl kf)), (hw, .inl (cI, 6, .inl wf)), (hs, .inl (cI, 6, .inl sf)), (hrs, .inl (cI, 24, .inl (nA Rr))), (hpr, .inl (cI, 192, .inl (nA Pr))), (hpd, .inl (cI, 8, .inl (nA Pd)))] (tyz cI cJ cS))) (QcRead (nI (lA n Wd rg (vR Sh Rr sp n r) (mA n Wd rg (vR Sh Rr sp n r) (2 ^ n)) (2 ^ n)))) 0 0 (fun _ => False) := by
  refine Met.ofW (cc := cX4_nearest) (maxL := 6) (ret := (some .int)) (by decide) rfl ?_
  intro p e s m args below meth c s₁ B hml hv
  obtain ⟨rfl, hP, hKK⟩ := hv
  have hK := hKK.1
  have hx := B.exec
  have hb := B.bytes
  have hr := B.returns
  have hts := atoms_spec (ws := wsX4_nearest) B.pre
  have hown : s.vm.findClass RX4 = some m.cls := findClass_of_methodNamed B.named
  have hlocks := B.notSynchronized
  have hiX0 : ∀ w ∈ wsX00, w ∈ wsX4_nearest := by decide +kernel
  have hiX3 : ∀ w ∈ wsX30, w ∈ wsX4_nearest := by decide +kernel
  have hiX4 : ∀ w ∈ wsX40, w ∈ wsX4_nearest := by decide +kernel
  have hl := lv_entry ([.ref x0, .int (nI r), .int (nI 0)]) (n := 6) (Nat.le_of_ble_eq_true rfl)
  rw [lg_entry_eq]
  generalize (lg_sl ([.ref x0, .int (nI r), .int (nI 0)]) ++ List.replicate (6 - (lg_sl ([.ref x0, .int (nI r), .int (nI 0)])).length) Slot.unset).toArray = ls at hl ⊢
  have hl : lv_has ls 6 [(0, .ref x0), (1, .int (nI r)), (2, .int (nI 0))] := hl
  have hn6 := ok.1
  have hvl : vR Sh Rr sp n r < sp := vS_lt (S := Sh) (r := fun k => Rr (r * 6 + k)) hsp0 n
  refine lv_iload_n hx hb dX4_nearest_0 rfl (lv_at hl 1 rfl) ?_
  refine rr_callR (va_runS (As := [.int (nI r)]) (rest := []) ⟨hx, hb, hml, hown, hts⟩ (c_X4_isRegister l (nI r) ) (va_cwS 1 hts gX4_nearest_X4_isRegister rfl rfl rfl (by decide +kernel) ⟨Nat.le_of_ble_eq_true rfl, Nat.le_of_ble_eq_true rfl⟩) rr_preT rfl rfl hl.1 rfl (lv_room (Nat.le_of_ble_eq_true rfl)) dX4_nearest_1 ⟨Nat.zero_le _, Nat.zero_le _⟩) ?_
  refine rr_top (y := bi true) (congrArg bi (inb_lt (by omega) (by omega))) ?_
  refine rb_if_eq (tgt := 15) hx hb dX4_nearest_4 (by decide) (fun c4 => ?_) (fun c4 => ?_)
  · exact absurd c4 (by decide)
  refine lv_iload_n hx hb dX4_nearest_7 rfl (lv_at hl 2 rfl) ?_
  refine lv_iconst (v := (nI 2)) hx hb dX4_nearest_8 (by decide) ?_
  refine rr_callR (va_runS (As := [.int (nI 0), .int (nI 2)]) (rest := []) ⟨hx, hb, hml, hown, hts⟩ (c_X4_isBelow l (nI 0) 2 (by first | assumption | omega)) (va_cwS 2 hts gX4_nearest_X4_isBelow rfl rfl rfl (by decide +kernel) ⟨Nat.le_of_ble_eq_true rfl, Nat.le_of_ble_eq_true rfl⟩) rr_preT rfl rfl hl.1 rfl (lv_room (Nat.le_of_ble_eq_true rfl)) dX4_nearest_9 ⟨Nat.zero_le _, Nat.zero_le _⟩) ?_
  refine rr_top (y := bi true) (congrArg bi (inb_lt (by omega) (by omega))) ?_
  refine rb_if_ne (tgt := 17) hx hb dX4_nearest_12 (by decide) (fun c12 => ?_) (fun c12 => ?_)
  rotate_left
  · exact absurd c12 (by decide)
  refine lv_aload_n hx hb dX4_nearest_17 rfl (lv_at hl 0 rfl) ?_
  refine va_get (D := (dC, dI)) (ci := 4) (v := .ref b0) (C := RX4) (T := TX4) (N := 5) hx hb hts hiX4 hown hK hP 0 rfl rfl 1 (by decide) (hts (.fieldLink RX4 19 "RestRegisters" "now" "LRestRegisters$Bank;") (by decide +kernel)) (fun _ h9 => h9) rfl dX4_nearest_18 ?_
  refine va_get (D := (dC, dI)) (ci := 0) (v := .ref h3) (C := RX0) (T := TX0) (N := 7) hx hb hts hiX0 hown hK hP 1 rfl rfl 0 (by decide) (hts (.fieldLink RX4 61 "RestRegisters$Bank" "wheels" "LRestRegisters$Wheels;") (by decide +kernel)) (fun _ h9 => h9) rfl dX4_nearest_21 ?_
  refine lv_astore_n (lv' := [(3, .ref h3), (0, .ref x0), (1, .int (nI r)), (2, .int (nI 0))]) hx hb dX4_nearest_24 rfl hl (by decide) rfl (fun ls hl => ?_)
  refine lv_aload_n hx hb dX4_nearest_25 rfl (lv_at hl 1 rfl) ?_
  refine va_get (D := (dC, dI)) (ci := 4) (v := .ref b0) (C := RX4) (T := TX4) (N := 5) hx hb hts hiX4 hown hK hP 0 rfl rfl 1 (by decide) (hts (.fieldLink RX4 19 "RestRegisters" "now" "LRestRegisters$Bank;") (by decide +kernel)) (fun _ h9 => h9) rfl dX4_nearest_26 ?_
  refine lv_iload_n hx hb dX4_nearest_29 rfl (lv_at hl 2 rfl) ?_
  refine rr_callR (va_runV (As := [.int (nI r)]) (rest := []) ⟨hx, hb, hml, hown, hts⟩ (c_X0_value l dC dI cI cJ cS b0 h3 hk hw hs hrs hpr hpd n h rg sp dr kn nx kf wf sf Kd Wd Sh Rr Pr Pd r (by first | assumption | omega) (by first | assumption | omega) (by first | assumption | omega) (by first | assumption | omega) (by first | assumption | omega) (by first | assumption | omega) (by first | assumption | omega)) (cwV 1 hts gX4_nearest_X0_value rfl rfl rfl (by decide +kernel) ⟨Nat.le_of_ble_eq_true rfl, Nat.le_of_ble_eq_true rfl⟩) (rr_preV hKK (hP.sub [1, 2, 3, 4, 5, 6, 7, 8] rfl) rfl rfl) rfl rfl hl.1 rfl (lv_room (Nat.le_of_ble_eq_true rfl)) dX4_nearest_30 ⟨Nat.zero_le _, Nat.zero_le _⟩) ?_
  refine lv_istore (lv' := [(4, .int (nI (vR Sh Rr sp n r))), (3, .ref h3), (0, .ref x0), (1, .int (nI r)), (2, .int (nI 0))]) hx hb dX4_nearest_33 hl (by decide) rfl (fun ls hl => ?_)
  refine lv_aload_n hx hb dX4_nearest_35 rfl (lv_at hl 1 rfl) ?_
  refine lv_iload hx hb dX4_nearest_36 (lv_at hl 0 rfl) ?_
  refine rr_callR (va_runV (As := [.int (nI (vR Sh Rr sp n r))]) (rest := []) ⟨hx, hb, hml, hown, hts⟩ (c_X3_mostAlike l dC dI cI cJ cS h3 hk hw hs n h rg sp kf wf sf Kd Wd Sh (vR Sh Rr sp n r) (by first | assumption | omega) (by first | assumption | omega) (by first | assumption | omega) (by first | assumption | omega)) (cwV 1 hts gX4_nearest_X3_mostAlike rfl rfl rfl (by decide +kernel) ⟨Nat.le_of_ble_eq_true rfl, Nat.le_of_ble_eq_true rfl⟩) (rr_preV hKK (hP.sub [2, 3, 4, 5] rfl) rfl rfl) rfl rfl hl.1 rfl (lv_room (Nat.le_of_ble_eq_true rfl)) dX4_nearest_38 ⟨Nat.zero_le _, Nat.zero_le _⟩) ?_
  have hma := mA_le hn6 Wd rg (vR Sh Rr sp n r) (2 ^ n) (Nat.le_refl _)
  refine lv_istore (lv' := [(5, .int (nI (mA n Wd rg (vR Sh Rr sp n r) (2 ^ n)))), (4, .int (nI (vR Sh Rr sp n r))), (3, .ref h3), (0, .ref x0), (1, .int (nI r)), (2, .int (nI 0))]) hx hb dX4_nearest_41 hl (by decide) rfl (fun ls hl => ?_)
  refine lv_iload_n hx hb dX4_nearest_43 rfl (lv_at hl 5 rfl) ?_
  refine rn_if_ne (tgt := 58) hx hb dX4_nearest_44 (by decide) (by omega) (fun c44 => ?_) (fun c44 => ?_)
  · skip
    exact absurd rfl c44
  refine lv_aload_n hx hb dX4_nearest_47 rfl (lv_at hl 2 rfl) ?_
  refine lv_iload hx hb dX4_nearest_48 (lv_at hl 1 rfl) ?_
  refine lv_iload hx hb dX4_nearest_50 (lv_at hl 0 rfl) ?_
  refine rr_callR (va_runV (As := [.int (nI (vR Sh Rr sp n r)), .int (nI (mA n Wd rg (vR Sh Rr sp n r) (2 ^ n)))]) (rest := []) ⟨hx, hb, hml, hown, hts⟩ (c_X3_leastAlike l dC dI cI cJ cS h3 hk hw hs n h rg sp kf wf sf Kd Wd Sh (vR Sh Rr sp n r) (mA n Wd rg (vR Sh Rr sp n r) (2 ^ n)) (by first | assumption | omega) (by first | assumption | omega) (by first | assumption | omega) (by first | assumption | omega) (by first | assumption | omega)) (cwV 2 hts gX4_nearest_X3_leastAlike rfl rfl rfl (by decide +kernel) ⟨Nat.le_of_ble_eq_true rfl, Nat.le_of_ble_eq_true rfl⟩) (rr_preV hKK (hP.sub [2, 3, 4, 5] rfl) rfl rfl) rfl rfl hl.1 rfl (lv_room (Nat.le_of_ble_eq_true rfl)) dX4_nearest_52 ⟨Nat.zero_le _, Nat.zero_le _⟩) ?_
  refine lv_goto (tgt := 65) hx hb dX4_nearest_55 (by decide) ?_
  exact rr_iret hx hb hr hlocks dX4_nearest_65 (rfl)
set_option maxHeartbeats 4000000 in
set_option maxRecDepth 100000 in
theorem c_X4_nearest_1 (l : Launch) (dC : Nat → ClassId) (dI : Nat → Nat → Nat) (cI cJ cS : ClassId) (x0 t0 k0 sa : Nat) (im : Bool) (b0 h3 hk hw hs hrs hpr hpd : Nat) (n h rg sp dr kn nx : Nat) (kf wf sf : Nat → Int32) (Kd Wd Sh Rr Pr Pd : Nat → Nat) (r : Nat) (ok : wOk n Kd Wd) (fk : isA n kf Kd) (fw : isA n wf Wd) (fs : isA n sf Sh) (hS : ∀ j, j < n → Sh j < sp) (hsp : sp ≤ 47045881) (hsp0 : 0 < sp) (hR : rOk n Wd Rr) (hrg : rg < 2 ^ 31) (hr4 : r < 4) : Met l yX4_nearest wsX4_nearest ({ frames := 3, cells := 0, slots := 0, locals := 68 }) (va_Pc [.ref x0, .int (nI r), .int (nI 1)] (rB (dC, dI) vwCl [(x0, .inr (4, [.ref t0, .ref b0, .ref k0, .int (bi im), .ref sa])), (b0, .inr (0, [.ref h3, .ref hrs, .int (nI dr), .int (nI kn), .int (nI nx), .ref hpr, .ref hpd])), (h3, .inr (3, [.int (nI n), .int (nI h), .int (nI rg), .int (nI sp), .ref hk, .ref hw, .ref hs])), (hk, .inl (cI, 6, .inl kf)), (hw, .inl (cI, 6, .inl wf)), (hs, .inl (cI, 6, .inl sf)), (hrs, .inl (cI, 24, .inl (nA Rr))), (hpr, .inl (cI, 192, .inl (nA Pr))), (hpd, .inl (cI, 8, .inl (nA Pd)))] (tyz cI cJ cS))) (QcRead (nI (n - mA n Wd rg (vR Sh Rr sp n r) (2 ^ n)))) 0 0 (fun _ => False) := by
  refine Met.ofW (cc := cX4_nearest) (maxL := 6) (ret := (some .int)) (by decide) rfl ?_
  intro p e s m args below meth c s₁ B hml hv
  obtain ⟨rfl, hP, hKK⟩ := hv
  have hK := hKK.1
  have hx := B.exec
  have hb := B.bytes
  have hr := B.returns
  have hts := atoms_spec (ws := wsX4_nearest) B.pre
  have hown : s.vm.findClass RX4 = some m.cls := findClass_of_methodNamed B.named
  have hlocks := B.notSynchronized
  have hiX0 : ∀ w ∈ wsX00, w ∈ wsX4_nearest := by decide +kernel
  have hiX3 : ∀ w ∈ wsX30, w ∈ wsX4_nearest := by decide +kernel
  have hiX4 : ∀ w ∈ wsX40, w ∈ wsX4_nearest := by decide +kernel
  have hl := lv_entry ([.ref x0, .int (nI r), .int (nI 1)]) (n := 6) (Nat.le_of_ble_eq_true rfl)
  rw [lg_entry_eq]
  generalize (lg_sl ([.ref x0, .int (nI r), .int (nI 1)]) ++ List.replicate (6 - (lg_sl ([.ref x0, .int (nI r), .int (nI 1)])).length) Slot.unset).toArray = ls at hl ⊢
  have hl : lv_has ls 6 [(0, .ref x0), (1, .int (nI r)), (2, .int (nI 1))] := hl
  have hn6 := ok.1
  have hvl : vR Sh Rr sp n r < sp := vS_lt (S := Sh) (r := fun k => Rr (r * 6 + k)) hsp0 n
  refine lv_iload_n hx hb dX4_nearest_0 rfl (lv_at hl 1 rfl) ?_
  refine rr_callR (va_runS (As := [.int (nI r)]) (rest := []) ⟨hx, hb, hml, hown, hts⟩ (c_X4_isRegister l (nI r) ) (va_cwS 1 hts gX4_nearest_X4_isRegister rfl rfl rfl (by decide +kernel) ⟨Nat.le_of_ble_eq_true rfl, Nat.le_of_ble_eq_true rfl⟩) rr_preT rfl rfl hl.1 rfl (lv_room (Nat.le_of_ble_eq_true rfl)) dX4_nearest_1 ⟨Nat.zero_le _, Nat.zero_le _⟩) ?_
  refine rr_top (y := bi true) (congrArg bi (inb_lt (by omega) (by omega))) ?_
  refine rb_if_eq (tgt := 15) hx hb dX4_nearest_4 (by decide) (fun c4 => ?_) (fun c4 => ?_)
  · exact absurd c4 (by decide)
  refine lv_iload_n hx hb dX4_nearest_7 rfl (lv_at hl 2 rfl) ?_
  refine lv_iconst (v := (nI 2)) hx hb dX4_nearest_8 (by decide) ?_
  refine rr_callR (va_runS (As := [.int (nI 1), .int (nI 2)]) (rest := []) ⟨hx, hb, hml, hown, hts⟩ (c_X4_isBelow l (nI 1) 2 (by first | assumption | omega)) (va_cwS 2 hts gX4_nearest_X4_isBelow rfl rfl rfl (by decide +kernel) ⟨Nat.le_of_ble_eq_true rfl, Nat.le_of_ble_eq_true rfl⟩) rr_preT rfl rfl hl.1 rfl (lv_room (Nat.le_of_ble_eq_true rfl)) dX4_nearest_9 ⟨Nat.zero_le _, Nat.zero_le _⟩) ?_
  refine rr_top (y := bi true) (congrArg bi (inb_lt (by omega) (by omega))) ?_
  refine rb_if_ne (tgt := 17) hx hb dX4_nearest_12 (by decide) (fun c12 => ?_) (fun c12 => ?_)
  rotate_left
  · exact absurd c12 (by decide)
  refine lv_aload_n hx hb dX4_nearest_17 rfl (lv_at hl 0 rfl) ?_
  refine va_get (D := (dC, dI)) (ci := 4) (v := .ref b0) (C := RX4) (T := TX4) (N := 5) hx hb hts hiX4 hown hK hP 0 rfl rfl 1 (by decide) (hts (.fieldLink RX4 19 "RestRegisters" "now" "LRestRegisters$Bank;") (by decide +kernel)) (fun _ h9 => h9) rfl dX4_nearest_18 ?_
  refine va_get (D := (dC, dI)) (ci := 0) (v := .ref h3) (C := RX0) (T := TX0) (N := 7) hx hb hts hiX0 hown hK hP 1 rfl rfl 0 (by decide) (hts (.fieldLink RX4 61 "RestRegisters$Bank" "wheels" "LRestRegisters$Wheels;") (by decide +kernel)) (fun _ h9 => h9) rfl dX4_nearest_21 ?_
  refine lv_astore_n (lv' := [(3, .ref h3), (0, .ref x0), (1, .int (nI r)), (2, .int (nI 1))]) hx hb dX4_nearest_24 rfl hl (by decide) rfl (fun ls hl => ?_)
  refine lv_aload_n hx hb dX4_nearest_25 rfl (lv_at hl 1 rfl) ?_
  refine va_get (D := (dC, dI)) (ci := 4) (v := .ref b0) (C := RX4) (T := TX4) (N := 5) hx hb hts hiX4 hown hK hP 0 rfl rfl 1 (by decide) (hts (.fieldLink RX4 19 "RestRegisters" "now" "LRestRegisters$Bank;") (by decide +kernel)) (fun _ h9 => h9) rfl dX4_nearest_26 ?_
  refine lv_iload_n hx hb dX4_nearest_29 rfl (lv_at hl 2 rfl) ?_
  refine rr_callR (va_runV (As := [.int (nI r)]) (rest := []) ⟨hx, hb, hml, hown, hts⟩ (c_X0_value l dC dI cI cJ cS b0 h3 hk hw hs hrs hpr hpd n h rg sp dr kn nx kf wf sf Kd Wd Sh Rr Pr Pd r (by first | assumption | omega) (by first | assumption | omega) (by first | assumption | omega) (by first | assumption | omega) (by first | assumption | omega) (by first | assumption | omega) (by first | assumption | omega)) (cwV 1 hts gX4_nearest_X0_value rfl rfl rfl (by decide +kernel) ⟨Nat.le_of_ble_eq_true rfl, Nat.le_of_ble_eq_true rfl⟩) (rr_preV hKK (hP.sub [1, 2, 3, 4, 5, 6, 7, 8] rfl) rfl rfl) rfl rfl hl.1 rfl (lv_room (Nat.le_of_ble_eq_true rfl)) dX4_nearest_30 ⟨Nat.zero_le _, Nat.zero_le _⟩) ?_
  refine lv_istore (lv' := [(4, .int (nI (vR Sh Rr sp n r))), (3, .ref h3), (0, .ref x0), (1, .int (nI r)), (2, .int (nI 1))]) hx hb dX4_nearest_33 hl (by decide) rfl (fun ls hl => ?_)
  refine lv_aload_n hx hb dX4_nearest_35 rfl (lv_at hl 1 rfl) ?_
  refine lv_iload hx hb dX4_nearest_36 (lv_at hl 0 rfl) ?_
  refine rr_callR (va_runV (As := [.int (nI (vR Sh Rr sp n r))]) (rest := []) ⟨hx, hb, hml, hown, hts⟩ (c_X3_mostAlike l dC dI cI cJ cS h3 hk hw hs n h rg sp kf wf sf Kd Wd Sh (vR Sh Rr sp n r) (by first | assumption | omega) (by first | assumption | omega) (by first | assumption | omega) (by first | assumption | omega)) (cwV 1 hts gX4_nearest_X3_mostAlike rfl rfl rfl (by decide +kernel) ⟨Nat.le_of_ble_eq_true rfl, Nat.le_of_ble_eq_true rfl⟩) (rr_preV hKK (hP.sub [2, 3, 4, 5] rfl) rfl rfl) rfl rfl hl.1 rfl (lv_room (Nat.le_of_ble_eq_true rfl)) dX4_nearest_38 ⟨Nat.zero_le _, Nat.zero_le _⟩) ?_
  have hma := mA_le hn6 Wd rg (vR Sh Rr sp n r) (2 ^ n) (Nat.le_refl _)
  refine lv_istore (lv' := [(5, .int (nI (mA n Wd rg (vR Sh Rr sp n r) (2 ^ n)))), (4, .int (nI (vR Sh Rr sp n r))), (3, .ref h3), (0, .ref x0), (1, .int (nI r)), (2, .int (nI 1))]) hx hb dX4_nearest_41 hl (by decide) rfl (fun ls hl => ?_)
  refine lv_iload_n hx hb dX4_nearest_43 rfl (lv_at hl 5 rfl) ?_
  refine rn_if_ne (tgt := 58) hx hb dX4_nearest_44 (by decide) (by omega) (fun c44 => ?_) (fun c44 => ?_)
  · skip
    refine lv_aload_n hx hb dX4_nearest_58 rfl (lv_at hl 2 rfl) ?_
    refine va_get (D := (dC, dI)) (ci := 3) (v := .int (nI n)) (C := RX3) (T := TX3) (N := 7) hx hb hts hiX3 hown hK hP 2 rfl rfl 0 (by decide) (hts (.fieldLink RX4 104 "RestRegisters$Wheels" "size" "I") (by decide +kernel)) (fun _ h9 => h9) rfl dX4_nearest_59 ?_
    refine lv_iload hx hb dX4_nearest_62 (lv_at hl 0 rfl) ?_
    refine rn_isub hx hb dX4_nearest_64 (by omega) ?_
    exact rr_iret hx hb hr hlocks dX4_nearest_65 (rfl)
  exact absurd c44 (by decide)
set_option maxHeartbeats 4000000 in
set_option maxRecDepth 100000 in
theorem c_X4_figure_g (l : Launch) (dC : Nat → ClassId) (dI : Nat → Nat → Nat) (cI cJ cS : ClassId) (x0 t0 k0 sa : Nat) (im : Bool) (b0 h3 hk hw hs hrs hpr hpd : Nat) (n h rg sp dr kn nx : Nat) (kf wf sf : Nat → Int32) (Kd Wd Sh Rr Pr Pd : Nat → Nat) (r k : Nat) (ok : wOk n Kd Wd) (fk : isA n kf Kd) (fw : isA n wf Wd) (fs : isA n sf Sh) (hS : ∀ j, j < n → Sh j < sp) (hsp : sp ≤ 47045881) (hsp0 : 0 < sp) (hR : rOk n Wd Rr) (hrg : rg < 2 ^ 31) (hr4 : r < 4) (hk2 : k < n) : Met l yX4_figure wsX4_figure ({ frames := 2, cells := 0, slots := 0, locals := 45 }) (va_Pc [.ref x0, .int (nI r), .int (nI k)] (rB (dC, dI) vwCl [(x0, .inr (4, [.ref t0, .ref b0, .ref k0, .int (bi im), .ref sa])), (b0, .inr (0, [.ref h3, .ref hrs, .int (nI dr), .int (nI kn), .int (nI nx), .ref hpr, .ref hpd])), (h3, .inr (3, [.int (nI n), .int (nI h), .int (nI rg), .int (nI sp), .ref hk, .ref hw, .ref hs])), (hk, .inl (cI, 6, .inl kf)), (hw, .inl (cI, 6, .inl wf)), (hs, .inl (cI, 6, .inl sf)), (hrs, .inl (cI, 24, .inl (nA Rr))), (hpr, .inl (cI, 192, .inl (nA Pr))), (hpd, .inl (cI, 8, .inl (nA Pd)))] (tyz cI cJ cS))) (QcRead (nI (dvs Wd (vR Sh Rr sp n r) k % Wd k))) 0 0 (fun _ => False) := by
  refine Met.ofW (cc := cX4_figure) (maxL := 3) (ret := (some .int)) (by decide) rfl ?_
  intro p e s m args below meth c s₁ B hml hv
  obtain ⟨rfl, hP, hKK⟩ := hv
  have hK := hKK.1
  have hx := B.exec
  have hb := B.bytes
  have hr := B.returns
  have hts := atoms_spec (ws := wsX4_figure) B.pre
  have hown : s.vm.findClass RX4 = some m.cls := findClass_of_methodNamed B.named
  have hlocks := B.notSynchronized
  have hiX0 : ∀ w ∈ wsX00, w ∈ wsX4_figure := by decide +kernel
  have hiX4 : ∀ w ∈ wsX40, w ∈ wsX4_figure := by decide +kernel
  have hl := lv_entry ([.ref x0, .int (nI r), .int (nI k)]) (n := 3) (Nat.le_of_ble_eq_true rfl)
  rw [lg_entry_eq]
  generalize (lg_sl ([.ref x0, .int (nI r), .int (nI k)]) ++ List.replicate (3 - (lg_sl ([.ref x0, .int (nI r), .int (nI k)])).length) Slot.unset).toArray = ls at hl ⊢
  have hl : lv_has ls 3 [(0, .ref x0), (1, .int (nI r)), (2, .int (nI k))] := hl
  have hn6 := ok.1
  have hvl : vR Sh Rr sp n r < sp := vS_lt (S := Sh) (r := fun k => Rr (r * 6 + k)) hsp0 n
  refine lv_iload_n hx hb dX4_figure_0 rfl (lv_at hl 1 rfl) ?_
  refine rr_callR (va_runS (As := [.int (nI r)]) (rest := []) ⟨hx, hb, hml, hown, hts⟩ (c_X4_isRegister l (nI r) ) (va_cwS 1 hts gX4_figure_X4_isRegister rfl rfl rfl (by decide +kernel) ⟨Nat.le_of_ble_eq_true rfl, Nat.le_of_ble_eq_true rfl⟩) rr_preT rfl rfl hl.1 rfl (lv_room (Nat.le_of_ble_eq_true rfl)) dX4_figure_1 ⟨Nat.zero_le _, Nat.zero_le _⟩) ?_
  refine rr_top (y := bi true) (congrArg bi (inb_lt (by omega) (by omega))) ?_
  refine rb_if_eq (tgt := 37) hx hb dX4_figure_4 (by decide) (fun c4 => ?_) (fun c4 => ?_)
  · exact absurd c4 (by decide)
  refine lv_aload_n hx hb dX4_figure_7 rfl (lv_at hl 0 rfl) ?_
  refine lv_iload_n hx hb dX4_figure_8 rfl (lv_at hl 2 rfl) ?_
  refine rr_callR (va_runV (As := [.int (nI k)]) (rest := []) ⟨hx, hb, hml, hown, hts⟩ (c_X4_isWheel l dC dI cI cJ cS x0 t0 k0 sa im b0 h3 hk hw hs hrs hpr hpd n h rg sp dr kn nx kf wf sf Kd Wd Sh Rr Pr Pd (nI k) (by first | assumption | omega)) (cwV 1 hts gX4_figure_X4_isWheel rfl rfl rfl (by decide +kernel) ⟨Nat.le_of_ble_eq_true rfl, Nat.le_of_ble_eq_true rfl⟩) (rr_preV hKK hP rfl rfl) rfl rfl hl.1 rfl (lv_room (Nat.le_of_ble_eq_true rfl)) dX4_figure_9 ⟨Nat.zero_le _, Nat.zero_le _⟩) ?_
  refine rr_top (y := bi true) (congrArg bi (inb_lt (by omega) (by omega))) ?_
  refine rb_if_eq (tgt := 37) hx hb dX4_figure_12 (by decide) (fun c12 => ?_) (fun c12 => ?_)
  · exact absurd c12 (by decide)
  refine lv_aload_n hx hb dX4_figure_15 rfl (lv_at hl 0 rfl) ?_
  refine va_get (D := (dC, dI)) (ci := 4) (v := .ref b0) (C := RX4) (T := TX4) (N := 5) hx hb hts hiX4 hown hK hP 0 rfl rfl 1 (by decide) (hts (.fieldLink RX4 19 "RestRegisters" "now" "LRestRegisters$Bank;") (by decide +kernel)) (fun _ h9 => h9) rfl dX4_figure_16 ?_
  refine va_get (D := (dC, dI)) (ci := 0) (v := .ref h3) (C := RX0) (T := TX0) (N := 7) hx hb hts hiX0 hown hK hP 1 rfl rfl 0 (by decide) (hts (.fieldLink RX4 61 "RestRegisters$Bank" "wheels" "LRestRegisters$Wheels;") (by decide +kernel)) (fun _ h9 => h9) rfl dX4_figure_19 ?_
  refine lv_aload_n hx hb dX4_figure_22 rfl (lv_at hl 0 rfl) ?_
  refine va_get (D := (dC, dI)) (ci := 4) (v := .ref b0) (C := RX4) (T := TX4) (N := 5) hx hb hts hiX4 hown hK hP 0 rfl rfl 1 (by decide) (hts (.fieldLink RX4 19 "RestRegisters" "now" "LRestRegisters$Bank;") (by decide +kernel)) (fun _ h9 => h9) rfl dX4_figure_23 ?_
  refine lv_iload_n hx hb dX4_figure_26 rfl (lv_at hl 1 rfl) ?_
  refine rr_callR (va_runV (As := [.int (nI r)]) (rest := [.ref h3]) ⟨hx, hb, hml, hown, hts⟩ (c_X0_value l dC dI cI cJ cS b0 h3 hk hw hs hrs hpr hpd n h rg sp dr kn nx kf wf sf Kd Wd Sh Rr Pr Pd r (by first | assumption | omega) (by first | assumption | omega) (by first | assumption | omega) (by first | assumption | omega) (by first | assumption | omega) (by first | assumption | omega) (by first | assumption | omega)) (cwV 1 hts gX4_figure_X0_value rfl rfl rfl (by decide +kernel) ⟨Nat.le_of_ble_eq_true rfl, Nat.le_of_ble_eq_true rfl⟩) (rr_preV hKK (hP.sub [1, 2, 3, 4, 5, 6, 7, 8] rfl) rfl rfl) rfl rfl hl.1 rfl (lv_room (Nat.le_of_ble_eq_true rfl)) dX4_figure_27 ⟨Nat.zero_le _, Nat.zero_le _⟩) ?_
  refine lv_iload_n hx hb dX4_figure_30 rfl (lv_at hl 2 rfl) ?_
  refine rr_callR (va_runV (As := [.int (nI (vR Sh Rr sp n r)), .int (nI k)]) (rest := []) ⟨hx, hb, hml, hown, hts⟩ (c_X3_mixedFigure l dC dI cI cJ cS h3 hk hw hs n h rg sp kf wf sf Kd Wd Sh (vR Sh Rr sp n r) k (by first | assumption | omega) (by first | assumption | omega) (by first | assumption | omega) (by first | assumption | omega)) (cwV 2 hts gX4_figure_X3_mixedFigure rfl rfl rfl (by decide +kernel) ⟨Nat.le_of_ble_eq_true rfl, Nat.le_of_ble_eq_true rfl⟩) (rr_preV hKK (hP.sub [2, 3, 4, 5] rfl) rfl rfl) rfl rfl hl.1 rfl (lv_room (Nat.le_of_ble_eq_true rfl)) dX4_figure_31 ⟨Nat.zero_le _, Nat.zero_le _⟩) ?_
  refine lv_goto (tgt := 38) hx hb dX4_figure_34 (by decide) ?_
  exact rr_iret hx hb hr hlocks dX4_figure_38 (rfl)
set_option maxHeartbeats 4000000 in
set_option maxRecDepth 100000 in
theorem c_X4_figure_b (l : Launch) (dC : Nat → ClassId) (dI : Nat → Nat → Nat) (cI cJ cS : ClassId) (x0 t0 k0 sa : Nat) (im : Bool) (b0 h3 hk hw hs hrs hpr hpd : Nat) (n h rg sp dr kn nx : Nat) (kf wf sf : Nat → Int32) (Kd Wd Sh Rr Pr Pd : Nat → Nat) (x y : Int32) (ok : wOk n Kd Wd) (fw : isA n wf Wd) (hbad : (inb x 4 && inb y n) = false) : Met l yX4_figure wsX4_figure ({ frames := 2, cells := 0, slots := 0, locals := 45 }) (va_Pc [.ref x0, .int x, .int y] (rB (dC, dI) vwCl [(x0, .inr (4, [.ref t0, .ref b0, .ref k0, .int (bi im), .ref sa])), (b0, .inr (0, [.ref h3, .ref hrs, .int (nI dr), .int (nI kn), .int (nI nx), .ref hpr, .ref hpd])), (h3, .inr (3, [.int (nI n), .int (nI h), .int (nI rg), .int (nI sp), .ref hk, .ref hw, .ref hs])), (hk, .inl (cI, 6, .inl kf)), (hw, .inl (cI, 6, .inl wf)), (hs, .inl (cI, 6, .inl sf)), (hrs, .inl (cI, 24, .inl (nA Rr))), (hpr, .inl (cI, 192, .inl (nA Pr))), (hpd, .inl (cI, 8, .inl (nA Pd)))] (tyz cI cJ cS))) (QcRead (-1)) 0 0 (fun _ => False) := by
  refine Met.ofW (cc := cX4_figure) (maxL := 3) (ret := (some .int)) (by decide) rfl ?_
  intro p e s m args below meth c s₁ B hml hv
  obtain ⟨rfl, hP, hKK⟩ := hv
  have hK := hKK.1
  have hx := B.exec
  have hb := B.bytes
  have hr := B.returns
  have hts := atoms_spec (ws := wsX4_figure) B.pre
  have hown : s.vm.findClass RX4 = some m.cls := findClass_of_methodNamed B.named
  have hlocks := B.notSynchronized
  have hiX0 : ∀ w ∈ wsX00, w ∈ wsX4_figure := by decide +kernel
  have hiX4 : ∀ w ∈ wsX40, w ∈ wsX4_figure := by decide +kernel
  have hl := lv_entry ([.ref x0, .int x, .int y]) (n := 3) (Nat.le_of_ble_eq_true rfl)
  rw [lg_entry_eq]
  generalize (lg_sl ([.ref x0, .int x, .int y]) ++ List.replicate (3 - (lg_sl ([.ref x0, .int x, .int y])).length) Slot.unset).toArray = ls at hl ⊢
  have hl : lv_has ls 3 [(0, .ref x0), (1, .int x), (2, .int y)] := hl
  have hn6 := ok.1
  refine lv_iload_n hx hb dX4_figure_0 rfl (lv_at hl 1 rfl) ?_
  refine rr_callR (va_runS (As := [.int x]) (rest := []) ⟨hx, hb, hml, hown, hts⟩ (c_X4_isRegister l x ) (va_cwS 1 hts gX4_figure_X4_isRegister rfl rfl rfl (by decide +kernel) ⟨Nat.le_of_ble_eq_true rfl, Nat.le_of_ble_eq_true rfl⟩) rr_preT rfl rfl hl.1 rfl (lv_room (Nat.le_of_ble_eq_true rfl)) dX4_figure_1 ⟨Nat.zero_le _, Nat.zero_le _⟩) ?_
  refine rb_if_eq (tgt := 37) hx hb dX4_figure_4 (by decide) (fun c4 => ?_) (fun c4 => ?_)
  · skip
    refine lv_iconst (v := (-1)) hx hb dX4_figure_37 (by decide) ?_
    exact rr_iret hx hb hr hlocks dX4_figure_38 (rfl)
  refine lv_aload_n hx hb dX4_figure_7 rfl (lv_at hl 0 rfl) ?_
  refine lv_iload_n hx hb dX4_figure_8 rfl (lv_at hl 2 rfl) ?_
  refine rr_callR (va_runV (As := [.int y]) (rest := []) ⟨hx, hb, hml, hown, hts⟩ (c_X4_isWheel l dC dI cI cJ cS x0 t0 k0 sa im b0 h3 hk hw hs hrs hpr hpd n h rg sp dr kn nx kf wf sf Kd Wd Sh Rr Pr Pd y (by first | assumption | omega)) (cwV 1 hts gX4_figure_X4_isWheel rfl rfl rfl (by decide +kernel) ⟨Nat.le_of_ble_eq_true rfl, Nat.le_of_ble_eq_true rfl⟩) (rr_preV hKK hP rfl rfl) rfl rfl hl.1 rfl (lv_room (Nat.le_of_ble_eq_true rfl)) dX4_figure_9 ⟨Nat.zero_le _, Nat.zero_le _⟩) ?_
  refine rb_if_eq (tgt := 37) hx hb dX4_figure_12 (by decide) (fun c12 => ?_) (fun c12 => ?_)
  · skip
    refine lv_iconst (v := (-1)) hx hb dX4_figure_37 (by decide) ?_
    exact rr_iret hx hb hr hlocks dX4_figure_38 (rfl)
  exact absurd hbad (by rw [c4, c12]; decide)
set_option maxHeartbeats 4000000 in
set_option maxRecDepth 100000 in
theorem c_X4_order_g (l : Launch) (dC : Nat → ClassId) (dI : Nat → Nat → Nat) (cI cJ cS : ClassId) (x0 t0 k0 sa : Nat) (im : Bool) (b0 h3 hk hw hs hrs hpr hpd : Nat) (n h rg sp dr kn nx : Nat) (kf wf sf : Nat → Int32) (Kd Wd Sh Rr Pr Pd : Nat → Nat) (r o : Nat) (ok : wOk n Kd Wd) (fk : isA n kf Kd) (fw : isA n wf Wd) (fs : isA n sf Sh) (hS : ∀ j, j < n → Sh j < sp) (hsp : sp ≤ 47045881) (hsp0 : 0 < sp) (hR : rOk n Wd Rr) (hrg : rg < 2 ^ 31) (hr4 : r < 4) (ho4 : o < 4) : Met l yX4_order wsX4_order ({ frames := 2, cells := 0, slots := 0, locals := 45 }) (va_Pc [.ref x0, .int (nI r), .int (nI o)] (rB (dC, dI) vwCl [(x0, .inr (4, [.ref t0, .ref b0, .ref k0, .int (bi im), .ref sa])), (b0, .inr (0, [.ref h3, .ref hrs, .int (nI dr), .int (nI kn), .int (nI nx), .ref hpr, .ref hpd])), (h3, .inr (3, [.int (nI n), .int (nI h), .int (nI rg), .int (nI sp), .ref hk, .ref hw, .ref hs])), (hk, .inl (cI, 6, .inl kf)), (hw, .inl (cI, 6, .inl wf)), (hs, .inl (cI, 6, .inl sf)), (hrs, .inl (cI, 24, .inl (nA Rr))), (hpr, .inl (cI, 192, .inl (nA Pr))), (hpd, .inl (cI, 8, .inl (nA Pd)))] (tyz cI cJ cS))) (QcRead (nI (orI (vR Sh Rr sp n r) (vR Sh Rr sp n o)))) 0 0 (fun _ => False) := by
  refine Met.ofW (cc := cX4_order) (maxL := 3) (ret := (some .int)) (by decide) rfl ?_
  intro p e s m args below meth c s₁ B hml hv
  obtain ⟨rfl, hP, hKK⟩ := hv
  have hK := hKK.1
  have hx := B.exec
  have hb := B.bytes
  have hr := B.returns
  have hts := atoms_spec (ws := wsX4_order) B.pre
  have hown : s.vm.findClass RX4 = some m.cls := findClass_of_methodNamed B.named
  have hlocks := B.notSynchronized
  have hiX4 : ∀ w ∈ wsX40, w ∈ wsX4_order := by decide +kernel
  have hl := lv_entry ([.ref x0, .int (nI r), .int (nI o)]) (n := 3) (Nat.le_of_ble_eq_true rfl)
  rw [lg_entry_eq]
  generalize (lg_sl ([.ref x0, .int (nI r), .int (nI o)]) ++ List.replicate (3 - (lg_sl ([.ref x0, .int (nI r), .int (nI o)])).length) Slot.unset).toArray = ls at hl ⊢
  have hl : lv_has ls 3 [(0, .ref x0), (1, .int (nI r)), (2, .int (nI o))] := hl
  have hn6 := ok.1
  have hvl : vR Sh Rr sp n r < sp := vS_lt (S := Sh) (r := fun k => Rr (r * 6 + k)) hsp0 n
  have hvo : vR Sh Rr sp n o < sp := vS_lt (S := Sh) (r := fun k => Rr (o * 6 + k)) hsp0 n
  refine lv_iload_n hx hb dX4_order_0 rfl (lv_at hl 1 rfl) ?_
  refine rr_callR (va_runS (As := [.int (nI r)]) (rest := []) ⟨hx, hb, hml, hown, hts⟩ (c_X4_isRegister l (nI r) ) (va_cwS 1 hts gX4_order_X4_isRegister rfl rfl rfl (by decide +kernel) ⟨Nat.le_of_ble_eq_true rfl, Nat.le_of_ble_eq_true rfl⟩) rr_preT rfl rfl hl.1 rfl (lv_room (Nat.le_of_ble_eq_true rfl)) dX4_order_1 ⟨Nat.zero_le _, Nat.zero_le _⟩) ?_
  refine rr_top (y := bi true) (congrArg bi (inb_lt (by omega) (by omega))) ?_
  refine rb_if_eq (tgt := 14) hx hb dX4_order_4 (by decide) (fun c4 => ?_) (fun c4 => ?_)
  · exact absurd c4 (by decide)
  refine lv_iload_n hx hb dX4_order_7 rfl (lv_at hl 2 rfl) ?_
  refine rr_callR (va_runS (As := [.int (nI o)]) (rest := []) ⟨hx, hb, hml, hown, hts⟩ (c_X4_isRegister l (nI o) ) (va_cwS 1 hts gX4_order_X4_isRegister rfl rfl rfl (by decide +kernel) ⟨Nat.le_of_ble_eq_true rfl, Nat.le_of_ble_eq_true rfl⟩) rr_preT rfl rfl hl.1 rfl (lv_room (Nat.le_of_ble_eq_true rfl)) dX4_order_8 ⟨Nat.zero_le _, Nat.zero_le _⟩) ?_
  refine rr_top (y := bi true) (congrArg bi (inb_lt (by omega) (by omega))) ?_
  refine rb_if_ne (tgt := 16) hx hb dX4_order_11 (by decide) (fun c11 => ?_) (fun c11 => ?_)
  rotate_left
  · exact absurd c11 (by decide)
  refine lv_iconst (v := (nI 1)) hx hb dX4_order_16 (by decide) ?_
  refine lv_aload_n hx hb dX4_order_17 rfl (lv_at hl 0 rfl) ?_
  refine va_get (D := (dC, dI)) (ci := 4) (v := .ref b0) (C := RX4) (T := TX4) (N := 5) hx hb hts hiX4 hown hK hP 0 rfl rfl 1 (by decide) (hts (.fieldLink RX4 19 "RestRegisters" "now" "LRestRegisters$Bank;") (by decide +kernel)) (fun _ h9 => h9) rfl dX4_order_18 ?_
  refine lv_iload_n hx hb dX4_order_21 rfl (lv_at hl 1 rfl) ?_
  refine rr_callR (va_runV (As := [.int (nI r)]) (rest := [.int (nI 1)]) ⟨hx, hb, hml, hown, hts⟩ (c_X0_value l dC dI cI cJ cS b0 h3 hk hw hs hrs hpr hpd n h rg sp dr kn nx kf wf sf Kd Wd Sh Rr Pr Pd r (by first | assumption | omega) (by first | assumption | omega) (by first | assumption | omega) (by first | assumption | omega) (by first | assumption | omega) (by first | assumption | omega) (by first | assumption | omega)) (cwV 1 hts gX4_order_X0_value rfl rfl rfl (by decide +kernel) ⟨Nat.le_of_ble_eq_true rfl, Nat.le_of_ble_eq_true rfl⟩) (rr_preV hKK (hP.sub [1, 2, 3, 4, 5, 6, 7, 8] rfl) rfl rfl) rfl rfl hl.1 rfl (lv_room (Nat.le_of_ble_eq_true rfl)) dX4_order_22 ⟨Nat.zero_le _, Nat.zero_le _⟩) ?_
  refine lv_aload_n hx hb dX4_order_25 rfl (lv_at hl 0 rfl) ?_
  refine va_get (D := (dC, dI)) (ci := 4) (v := .ref b0) (C := RX4) (T := TX4) (N := 5) hx hb hts hiX4 hown hK hP 0 rfl rfl 1 (by decide) (hts (.fieldLink RX4 19 "RestRegisters" "now" "LRestRegisters$Bank;") (by decide +kernel)) (fun _ h9 => h9) rfl dX4_order_26 ?_
  refine lv_iload_n hx hb dX4_order_29 rfl (lv_at hl 2 rfl) ?_
  refine rr_callR (va_runV (As := [.int (nI o)]) (rest := [.int (nI (vR Sh Rr sp n r)), .int (nI 1)]) ⟨hx, hb, hml, hown, hts⟩ (c_X0_value l dC dI cI cJ cS b0 h3 hk hw hs hrs hpr hpd n h rg sp dr kn nx kf wf sf Kd Wd Sh Rr Pr Pd o (by first | assumption | omega) (by first | assumption | omega) (by first | assumption | omega) (by first | assumption | omega) (by first | assumption | omega) (by first | assumption | omega) (by first | assumption | omega)) (cwV 1 hts gX4_order_X0_value rfl rfl rfl (by decide +kernel) ⟨Nat.le_of_ble_eq_true rfl, Nat.le_of_ble_eq_true rfl⟩) (rr_preV hKK (hP.sub [1, 2, 3, 4, 5, 6, 7, 8] rfl) rfl rfl) rfl rfl hl.1 rfl (lv_room (Nat.le_of_ble_eq_true rfl)) dX4_order_30 ⟨Nat.zero_le _, Nat.zero_le _⟩) ?_
  refine rr_callR (va_runS (As := [.int (nI (vR Sh Rr sp n r)), .int (nI (vR Sh Rr sp n o))]) (rest := [.int (nI 1)]) ⟨hx, hb, hml, hown, hts⟩ (c_J6_compare_7cf53 l (nI (vR Sh Rr sp n r)) (nI (vR Sh Rr sp n o)) ) (va_cwS 2 hts gX4_order_J6_compare_7cf53 rfl rfl rfl (by decide +kernel) ⟨Nat.le_of_ble_eq_true rfl, Nat.le_of_ble_eq_true rfl⟩) rr_preT rfl rfl hl.1 rfl (lv_room (Nat.le_of_ble_eq_true rfl)) dX4_order_33 ⟨Nat.zero_le _, Nat.zero_le _⟩) ?_
  refine lv_iadd hx hb dX4_order_36 ?_
  exact rr_iret hx hb hr hlocks dX4_order_37 (cmpI_or (by omega) (by omega))
set_option maxHeartbeats 4000000 in
set_option maxRecDepth 100000 in
theorem c_X4_order_b (l : Launch) (dC : Nat → ClassId) (dI : Nat → Nat → Nat) (cI cJ cS : ClassId) (x0 t0 k0 sa : Nat) (im : Bool) (b0 h3 hk hw hs hrs hpr hpd : Nat) (n h rg sp dr kn nx : Nat) (kf wf sf : Nat → Int32) (Kd Wd Sh Rr Pr Pd : Nat → Nat) (x y : Int32) (ok : wOk n Kd Wd) (fw : isA n wf Wd) (hbad : (inb x 4 && inb y 4) = false) : Met l yX4_order wsX4_order ({ frames := 2, cells := 0, slots := 0, locals := 45 }) (va_Pc [.ref x0, .int x, .int y] (rB (dC, dI) vwCl [(x0, .inr (4, [.ref t0, .ref b0, .ref k0, .int (bi im), .ref sa])), (b0, .inr (0, [.ref h3, .ref hrs, .int (nI dr), .int (nI kn), .int (nI nx), .ref hpr, .ref hpd])), (h3, .inr (3, [.int (nI n), .int (nI h), .int (nI rg), .int (nI sp), .ref hk, .ref hw, .ref hs])), (hk, .inl (cI, 6, .inl kf)), (hw, .inl (cI, 6, .inl wf)), (hs, .inl (cI, 6, .inl sf)), (hrs, .inl (cI, 24, .inl (nA Rr))), (hpr, .inl (cI, 192, .inl (nA Pr))), (hpd, .inl (cI, 8, .inl (nA Pd)))] (tyz cI cJ cS))) (QcRead (-1)) 0 0 (fun _ => False) := by
  refine Met.ofW (cc := cX4_order) (maxL := 3) (ret := (some .int)) (by decide) rfl ?_
  intro p e s m args below meth c s₁ B hml hv
  obtain ⟨rfl, hP, hKK⟩ := hv
  have hK := hKK.1
  have hx := B.exec
  have hb := B.bytes
  have hr := B.returns
  have hts := atoms_spec (ws := wsX4_order) B.pre
  have hown : s.vm.findClass RX4 = some m.cls := findClass_of_methodNamed B.named
  have hlocks := B.notSynchronized
  have hiX4 : ∀ w ∈ wsX40, w ∈ wsX4_order := by decide +kernel
  have hl := lv_entry ([.ref x0, .int x, .int y]) (n := 3) (Nat.le_of_ble_eq_true rfl)
  rw [lg_entry_eq]
  generalize (lg_sl ([.ref x0, .int x, .int y]) ++ List.replicate (3 - (lg_sl ([.ref x0, .int x, .int y])).length) Slot.unset).toArray = ls at hl ⊢
  have hl : lv_has ls 3 [(0, .ref x0), (1, .int x), (2, .int y)] := hl
  have hn6 := ok.1
  refine lv_iload_n hx hb dX4_order_0 rfl (lv_at hl 1 rfl) ?_
  refine rr_callR (va_runS (As := [.int x]) (rest := []) ⟨hx, hb, hml, hown, hts⟩ (c_X4_isRegister l x ) (va_cwS 1 hts gX4_order_X4_isRegister rfl rfl rfl (by decide +kernel) ⟨Nat.le_of_ble_eq_true rfl, Nat.le_of_ble_eq_true rfl⟩) rr_preT rfl rfl hl.1 rfl (lv_room (Nat.le_of_ble_eq_true rfl)) dX4_order_1 ⟨Nat.zero_le _, Nat.zero_le _⟩) ?_
  refine rb_if_eq (tgt := 14) hx hb dX4_order_4 (by decide) (fun c4 => ?_) (fun c4 => ?_)
  · skip
    refine lv_iconst (v := (-1)) hx hb dX4_order_14 (by decide) ?_
    exact rr_iret hx hb hr hlocks dX4_order_15 (rfl)
  refine lv_iload_n hx hb dX4_order_7 rfl (lv_at hl 2 rfl) ?_
  refine rr_callR (va_runS (As := [.int y]) (rest := []) ⟨hx, hb, hml, hown, hts⟩ (c_X4_isRegister l y ) (va_cwS 1 hts gX4_order_X4_isRegister rfl rfl rfl (by decide +kernel) ⟨Nat.le_of_ble_eq_true rfl, Nat.le_of_ble_eq_true rfl⟩) rr_preT rfl rfl hl.1 rfl (lv_room (Nat.le_of_ble_eq_true rfl)) dX4_order_8 ⟨Nat.zero_le _, Nat.zero_le _⟩) ?_
  refine rb_if_ne (tgt := 16) hx hb dX4_order_11 (by decide) (fun c11 => ?_) (fun c11 => ?_)
  · skip
    exact absurd hbad (by rw [c4, c11]; decide)
  refine lv_iconst (v := (-1)) hx hb dX4_order_14 (by decide) ?_
  exact rr_iret hx hb hr hlocks dX4_order_15 (rfl)
set_option maxHeartbeats 4000000 in
set_option maxRecDepth 100000 in
theorem c_X4_blame_g (l : Launch) (dC : Nat → ClassId) (dI : Nat → Nat → Nat) (cI cJ cS : ClassId) (x0 t0 k0 sa : Nat) (im : Bool) (b0 h3 hk hw hs hrs hpr hpd : Nat) (n h rg sp dr kn nx : Nat) (kf wf sf : Nat → Int32) (Kd Wd Sh Rr Pr Pd : Nat → Nat) (r : Nat) (ok : wOk n Kd Wd) (fk : isA n kf Kd) (fw : isA n wf Wd) (fs : isA n sf Sh) (hS : ∀ j, j < n → Sh j < sp) (hsp : sp ≤ 47045881) (hsp0 : 0 < sp) (hR : rOk n Wd Rr) (hrg : rg < 2 ^ 31) (hr4 : r < 4) (hdv : ∀ j, j < n → 0 < sp / Wd j) : Met l yX4_blame wsX4_blame ({ frames := 2, cells := 0, slots := 0, locals := 45 }) (va_Pc [.ref x0, .int (nI r)] (rB (dC, dI) vwCl [(x0, .inr (4, [.ref t0, .ref b0, .ref k0, .int (bi im), .ref sa])), (b0, .inr (0, [.ref h3, .ref hrs, .int (nI dr), .int (nI kn), .int (nI nx), .ref hpr, .ref hpd])), (h3, .inr (3, [.int (nI n), .int (nI h), .int (nI rg), .int (nI sp), .ref hk, .ref hw, .ref hs])), (hk, .inl (cI, 6, .inl kf)), (hw, .inl (cI, 6, .inl wf)), (hs, .inl (cI, 6, .inl sf)), (hrs, .inl (cI, 24, .inl (nA Rr))), (hpr, .inl (cI, 192, .inl (nA Pr))), (hpd, .inl (cI, 8, .inl (nA Pd)))] (tyz cI cJ cS))) (QcRead (nI (if vR Sh Rr sp n r < rg then 0 else orS (fun j => decide (vR Sh Rr sp n r % (sp / Wd j) < rg)) n))) 0 0 (fun _ => False) := by
  refine Met.ofW (cc := cX4_blame) (maxL := 2) (ret := (some .int)) (by decide) rfl ?_
  intro p e s m args below meth c s₁ B hml hv
  obtain ⟨rfl, hP, hKK⟩ := hv
  have hK := hKK.1
  have hx := B.exec
  have hb := B.bytes
  have hr := B.returns
  have hts := atoms_spec (ws := wsX4_blame) B.pre
  have hown : s.vm.findClass RX4 = some m.cls := findClass_of_methodNamed B.named
  have hlocks := B.notSynchronized
  have hiX0 : ∀ w ∈ wsX00, w ∈ wsX4_blame := by decide +kernel
  have hiX4 : ∀ w ∈ wsX40, w ∈ wsX4_blame := by decide +kernel
  have hl := lv_entry ([.ref x0, .int (nI r)]) (n := 2) (Nat.le_of_ble_eq_true rfl)
  rw [lg_entry_eq]
  generalize (lg_sl ([.ref x0, .int (nI r)]) ++ List.replicate (2 - (lg_sl ([.ref x0, .int (nI r)])).length) Slot.unset).toArray = ls at hl ⊢
  have hl : lv_has ls 2 [(0, .ref x0), (1, .int (nI r))] := hl
  have hn6 := ok.1
  have hvl : vR Sh Rr sp n r < sp := vS_lt (S := Sh) (r := fun k => Rr (r * 6 + k)) hsp0 n
  refine lv_iload_n hx hb dX4_blame_0 rfl (lv_at hl 1 rfl) ?_
  refine rr_callR (va_runS (As := [.int (nI r)]) (rest := []) ⟨hx, hb, hml, hown, hts⟩ (c_X4_isRegister l (nI r) ) (va_cwS 1 hts gX4_blame_X4_isRegister rfl rfl rfl (by decide +kernel) ⟨Nat.le_of_ble_eq_true rfl, Nat.le_of_ble_eq_true rfl⟩) rr_preT rfl rfl hl.1 rfl (lv_room (Nat.le_of_ble_eq_true rfl)) dX4_blame_1 ⟨Nat.zero_le _, Nat.zero_le _⟩) ?_
  refine rr_top (y := bi true) (congrArg bi (inb_lt (by omega) (by omega))) ?_
  refine rb_if_eq (tgt := 28) hx hb dX4_blame_4 (by decide) (fun c4 => ?_) (fun c4 => ?_)
  · exact absurd c4 (by decide)
  refine lv_aload_n hx hb dX4_blame_7 rfl (lv_at hl 0 rfl) ?_
  refine va_get (D := (dC, dI)) (ci := 4) (v := .ref b0) (C := RX4) (T := TX4) (N := 5) hx hb hts hiX4 hown hK hP 0 rfl rfl 1 (by decide) (hts (.fieldLink RX4 19 "RestRegisters" "now" "LRestRegisters$Bank;") (by decide +kernel)) (fun _ h9 => h9) rfl dX4_blame_8 ?_
  refine va_get (D := (dC, dI)) (ci := 0) (v := .ref h3) (C := RX0) (T := TX0) (N := 7) hx hb hts hiX0 hown hK hP 1 rfl rfl 0 (by decide) (hts (.fieldLink RX4 61 "RestRegisters$Bank" "wheels" "LRestRegisters$Wheels;") (by decide +kernel)) (fun _ h9 => h9) rfl dX4_blame_11 ?_
  refine lv_aload_n hx hb dX4_blame_14 rfl (lv_at hl 0 rfl) ?_
  refine va_get (D := (dC, dI)) (ci := 4) (v := .ref b0) (C := RX4) (T := TX4) (N := 5) hx hb hts hiX4 hown hK hP 0 rfl rfl 1 (by decide) (hts (.fieldLink RX4 19 "RestRegisters" "now" "LRestRegisters$Bank;") (by decide +kernel)) (fun _ h9 => h9) rfl dX4_blame_15 ?_
  refine lv_iload_n hx hb dX4_blame_18 rfl (lv_at hl 1 rfl) ?_
  refine rr_callR (va_runV (As := [.int (nI r)]) (rest := [.ref h3]) ⟨hx, hb, hml, hown, hts⟩ (c_X0_value l dC dI cI cJ cS b0 h3 hk hw hs hrs hpr hpd n h rg sp dr kn nx kf wf sf Kd Wd Sh Rr Pr Pd r (by first | assumption | omega) (by first | assumption | omega) (by first | assumption | omega) (by first | assumption | omega) (by first | assumption | omega) (by first | assumption | omega) (by first | assumption | omega)) (cwV 1 hts gX4_blame_X0_value rfl rfl rfl (by decide +kernel) ⟨Nat.le_of_ble_eq_true rfl, Nat.le_of_ble_eq_true rfl⟩) (rr_preV hKK (hP.sub [1, 2, 3, 4, 5, 6, 7, 8] rfl) rfl rfl) rfl rfl hl.1 rfl (lv_room (Nat.le_of_ble_eq_true rfl)) dX4_blame_19 ⟨Nat.zero_le _, Nat.zero_le _⟩) ?_
  refine rr_callR (va_runV (As := [.int (nI (vR Sh Rr sp n r))]) (rest := []) ⟨hx, hb, hml, hown, hts⟩ (c_X3_blamed l dC dI cI cJ cS h3 hk hw hs n h rg sp kf wf sf Kd Wd Sh (vR Sh Rr sp n r) (by first | assumption | omega) (by first | assumption | omega) (by first | assumption | omega) (by first | assumption | omega) (by first | assumption | omega) (by first | assumption | omega)) (cwV 1 hts gX4_blame_X3_blamed rfl rfl rfl (by decide +kernel) ⟨Nat.le_of_ble_eq_true rfl, Nat.le_of_ble_eq_true rfl⟩) (rr_preV hKK (hP.sub [2, 3, 4, 5] rfl) rfl rfl) rfl rfl hl.1 rfl (lv_room (Nat.le_of_ble_eq_true rfl)) dX4_blame_22 ⟨Nat.zero_le _, Nat.zero_le _⟩) ?_
  refine lv_goto (tgt := 29) hx hb dX4_blame_25 (by decide) ?_
  exact rr_iret hx hb hr hlocks dX4_blame_29 (rfl)
set_option maxHeartbeats 4000000 in
set_option maxRecDepth 100000 in
theorem c_X4_blame_b (l : Launch) (dC : Nat → ClassId) (dI : Nat → Nat → Nat) (cI cJ cS : ClassId) (x0 t0 k0 sa : Nat) (im : Bool) (b0 h3 hk hw hs hrs hpr hpd : Nat) (n h rg sp dr kn nx : Nat) (kf wf sf : Nat → Int32) (Kd Wd Sh Rr Pr Pd : Nat → Nat) (x : Int32) (ok : wOk n Kd Wd) (fw : isA n wf Wd) (hbad : (inb x 4) = false) : Met l yX4_blame wsX4_blame ({ frames := 2, cells := 0, slots := 0, locals := 45 }) (va_Pc [.ref x0, .int x] (rB (dC, dI) vwCl [(x0, .inr (4, [.ref t0, .ref b0, .ref k0, .int (bi im), .ref sa])), (b0, .inr (0, [.ref h3, .ref hrs, .int (nI dr), .int (nI kn), .int (nI nx), .ref hpr, .ref hpd])), (h3, .inr (3, [.int (nI n), .int (nI h), .int (nI rg), .int (nI sp), .ref hk, .ref hw, .ref hs])), (hk, .inl (cI, 6, .inl kf)), (hw, .inl (cI, 6, .inl wf)), (hs, .inl (cI, 6, .inl sf)), (hrs, .inl (cI, 24, .inl (nA Rr))), (hpr, .inl (cI, 192, .inl (nA Pr))), (hpd, .inl (cI, 8, .inl (nA Pd)))] (tyz cI cJ cS))) (QcRead (-1)) 0 0 (fun _ => False) := by
  refine Met.ofW (cc := cX4_blame) (maxL := 2) (ret := (some .int)) (by decide) rfl ?_
  intro p e s m args below meth c s₁ B hml hv
  obtain ⟨rfl, hP, hKK⟩ := hv
  have hK := hKK.1
  have hx := B.exec
  have hb := B.bytes
  have hr := B.returns
  have hts := atoms_spec (ws := wsX4_blame) B.pre
  have hown : s.vm.findClass RX4 = some m.cls := findClass_of_methodNamed B.named
  have hlocks := B.notSynchronized
  have hiX0 : ∀ w ∈ wsX00, w ∈ wsX4_blame := by decide +kernel
  have hiX4 : ∀ w ∈ wsX40, w ∈ wsX4_blame := by decide +kernel
  have hl := lv_entry ([.ref x0, .int x]) (n := 2) (Nat.le_of_ble_eq_true rfl)
  rw [lg_entry_eq]
  generalize (lg_sl ([.ref x0, .int x]) ++ List.replicate (2 - (lg_sl ([.ref x0, .int x])).length) Slot.unset).toArray = ls at hl ⊢
  have hl : lv_has ls 2 [(0, .ref x0), (1, .int x)] := hl
  have hn6 := ok.1
  refine lv_iload_n hx hb dX4_blame_0 rfl (lv_at hl 1 rfl) ?_
  refine rr_callR (va_runS (As := [.int x]) (rest := []) ⟨hx, hb, hml, hown, hts⟩ (c_X4_isRegister l x ) (va_cwS 1 hts gX4_blame_X4_isRegister rfl rfl rfl (by decide +kernel) ⟨Nat.le_of_ble_eq_true rfl, Nat.le_of_ble_eq_true rfl⟩) rr_preT rfl rfl hl.1 rfl (lv_room (Nat.le_of_ble_eq_true rfl)) dX4_blame_1 ⟨Nat.zero_le _, Nat.zero_le _⟩) ?_
  refine rb_if_eq (tgt := 28) hx hb dX4_blame_4 (by decide) (fun c4 => ?_) (fun c4 => ?_)
  · skip
    refine lv_iconst (v := (-1)) hx hb dX4_blame_28 (by decide) ?_
    exact rr_iret hx hb hr hlocks dX4_blame_29 (rfl)
  exact absurd hbad (by rw [c4]; decide)
set_option maxHeartbeats 4000000 in
set_option maxRecDepth 100000 in
theorem c_X4_nearest_b (l : Launch) (dC : Nat → ClassId) (dI : Nat → Nat → Nat) (cI cJ cS : ClassId) (x0 t0 k0 sa : Nat) (im : Bool) (b0 h3 hk hw hs hrs hpr hpd : Nat) (n h rg sp dr kn nx : Nat) (kf wf sf : Nat → Int32) (Kd Wd Sh Rr Pr Pd : Nat → Nat) (x y : Int32) (ok : wOk n Kd Wd) (fw : isA n wf Wd) (hbad : (inb x 4 && inb y 2) = false) : Met l yX4_nearest wsX4_nearest ({ frames := 3, cells := 0, slots := 0, locals := 68 }) (va_Pc [.ref x0, .int x, .int y] (rB (dC, dI) vwCl [(x0, .inr (4, [.ref t0, .ref b0, .ref k0, .int (bi im), .ref sa])), (b0, .inr (0, [.ref h3, .ref hrs, .int (nI dr), .int (nI kn), .int (nI nx), .ref hpr, .ref hpd])), (h3, .inr (3, [.int (nI n), .int (nI h), .int (nI rg), .int (nI sp), .ref hk, .ref hw, .ref hs])), (hk, .inl (cI, 6, .inl kf)), (hw, .inl (cI, 6, .inl wf)), (hs, .inl (cI, 6, .inl sf)), (hrs, .inl (cI, 24, .inl (nA Rr))), (hpr, .inl (cI, 192, .inl (nA Pr))), (hpd, .inl (cI, 8, .inl (nA Pd)))] (tyz cI cJ cS))) (QcRead (-1)) 0 0 (fun _ => False) := by
  refine Met.ofW (cc := cX4_nearest) (maxL := 6) (ret := (some .int)) (by decide) rfl ?_
  intro p e s m args below meth c s₁ B hml hv
  obtain ⟨rfl, hP, hKK⟩ := hv
  have hK := hKK.1
  have hx := B.exec
  have hb := B.bytes
  have hr := B.returns
  have hts := atoms_spec (ws := wsX4_nearest) B.pre
  have hown : s.vm.findClass RX4 = some m.cls := findClass_of_methodNamed B.named
  have hlocks := B.notSynchronized
  have hiX0 : ∀ w ∈ wsX00, w ∈ wsX4_nearest := by decide +kernel
  have hiX3 : ∀ w ∈ wsX30, w ∈ wsX4_nearest := by decide +kernel
  have hiX4 : ∀ w ∈ wsX40, w ∈ wsX4_nearest := by decide +kernel
  have hl := lv_entry ([.ref x0, .int x, .int y]) (n := 6) (Nat.le_of_ble_eq_true rfl)
  rw [lg_entry_eq]
  generalize (lg_sl ([.ref x0, .int x, .int y]) ++ List.replicate (6 - (lg_sl ([.ref x0, .int x, .int y])).length) Slot.unset).toArray = ls at hl ⊢
  have hl : lv_has ls 6 [(0, .ref x0), (1, .int x), (2, .int y)] := hl
  have hn6 := ok.1
  refine lv_iload_n hx hb dX4_nearest_0 rfl (lv_at hl 1 rfl) ?_
  refine rr_callR (va_runS (As := [.int x]) (rest := []) ⟨hx, hb, hml, hown, hts⟩ (c_X4_isRegister l x ) (va_cwS 1 hts gX4_nearest_X4_isRegister rfl rfl rfl (by decide +kernel) ⟨Nat.le_of_ble_eq_true rfl, Nat.le_of_ble_eq_true rfl⟩) rr_preT rfl rfl hl.1 rfl (lv_room (Nat.le_of_ble_eq_true rfl)) dX4_nearest_1 ⟨Nat.zero_le _, Nat.zero_le _⟩) ?_
  refine rb_if_eq (tgt := 15) hx hb dX4_nearest_4 (by decide) (fun c4 => ?_) (fun c4 => ?_)
  · skip
    refine lv_iconst (v := (-1)) hx hb dX4_nearest_15 (by decide) ?_
    exact rr_iret hx hb hr hlocks dX4_nearest_16 (rfl)
  refine lv_iload_n hx hb dX4_nearest_7 rfl (lv_at hl 2 rfl) ?_
  refine lv_iconst (v := (nI 2)) hx hb dX4_nearest_8 (by decide) ?_
  refine rr_callR (va_runS (As := [.int y, .int (nI 2)]) (rest := []) ⟨hx, hb, hml, hown, hts⟩ (c_X4_isBelow l y 2 (by first | assumption | omega)) (va_cwS 2 hts gX4_nearest_X4_isBelow rfl rfl rfl (by decide +kernel) ⟨Nat.le_of_ble_eq_true rfl, Nat.le_of_ble_eq_true rfl⟩) rr_preT rfl rfl hl.1 rfl (lv_room (Nat.le_of_ble_eq_true rfl)) dX4_nearest_9 ⟨Nat.zero_le _, Nat.zero_le _⟩) ?_
  refine rb_if_ne (tgt := 17) hx hb dX4_nearest_12 (by decide) (fun c12 => ?_) (fun c12 => ?_)
  · skip
    exact absurd hbad (by rw [c4, c12]; decide)
  refine lv_iconst (v := (-1)) hx hb dX4_nearest_15 (by decide) ?_
  exact rr_iret hx hb hr hlocks dX4_nearest_16 (rfl)
set_option maxHeartbeats 4000000 in
set_option maxRecDepth 100000 in
theorem c_X4_apart_g (l : Launch) (dC : Nat → ClassId) (dI : Nat → Nat → Nat) (cI cJ cS : ClassId) (x0 t0 k0 sa : Nat) (im : Bool) (b0 h3 hk hw hs hrs hpr hpd : Nat) (n h rg sp dr kn nx : Nat) (kf wf sf : Nat → Int32) (Kd Wd Sh Rr Pr Pd : Nat → Nat) (ok : wOk n Kd Wd) (fk : isA n kf Kd) (fw : isA n wf Wd) (fs : isA n sf Sh) (hS : ∀ j, j < n → Sh j < sp) (hsp : sp ≤ 47045881) (hsp0 : 0 < sp) (hR : rOk n Wd Rr) (hrg : rg < 2 ^ 31) : Met l yX4_apart wsX4_apart ({ frames := 3, cells := 0, slots := 0, locals := 66 }) (va_Pc [.ref x0] (rB (dC, dI) vwCl [(x0, .inr (4, [.ref t0, .ref b0, .ref k0, .int (bi im), .ref sa])), (b0, .inr (0, [.ref h3, .ref hrs, .int (nI dr), .int (nI kn), .int (nI nx), .ref hpr, .ref hpd])), (h3, .inr (3, [.int (nI n), .int (nI h), .int (nI rg), .int (nI sp), .ref hk, .ref hw, .ref hs])), (hk, .inl (cI, 6, .inl kf)), (hw, .inl (cI, 6, .inl wf)), (hs, .inl (cI, 6, .inl sf)), (hrs, .inl (cI, 24, .inl (nA Rr))), (hpr, .inl (cI, 192, .inl (nA Pr))), (hpd, .inl (cI, 8, .inl (nA Pd)))] (tyz cI cJ cS))) (QcRead (if rg = 1 then (-4) else nI (n - fU n Wd rg (2 ^ n)))) 0 0 (fun _ => False) := by
  refine Met.ofW (cc := cX4_apart) (maxL := 1) (ret := (some .int)) (by decide) rfl ?_
  intro p e s m args below meth c s₁ B hml hv
  obtain ⟨rfl, hP, hKK⟩ := hv
  have hK := hKK.1
  have hx := B.exec
  have hb := B.bytes
  have hr := B.returns
  have hts := atoms_spec (ws := wsX4_apart) B.pre
  have hown : s.vm.findClass RX4 = some m.cls := findClass_of_methodNamed B.named
  have hlocks := B.notSynchronized
  have hiX0 : ∀ w ∈ wsX00, w ∈ wsX4_apart := by decide +kernel
  have hiX3 : ∀ w ∈ wsX30, w ∈ wsX4_apart := by decide +kernel
  have hiX4 : ∀ w ∈ wsX40, w ∈ wsX4_apart := by decide +kernel
  have hl := lv_entry ([.ref x0]) (n := 1) (Nat.le_of_ble_eq_true rfl)
  rw [lg_entry_eq]
  generalize (lg_sl ([.ref x0]) ++ List.replicate (1 - (lg_sl ([.ref x0])).length) Slot.unset).toArray = ls at hl ⊢
  have hl : lv_has ls 1 [(0, .ref x0)] := hl
  have hn6 := ok.1
  refine lv_aload_n hx hb dX4_apart_0 rfl (lv_at hl 0 rfl) ?_
  refine va_get (D := (dC, dI)) (ci := 4) (v := .ref b0) (C := RX4) (T := TX4) (N := 5) hx hb hts hiX4 hown hK hP 0 rfl rfl 1 (by decide) (hts (.fieldLink RX4 19 "RestRegisters" "now" "LRestRegisters$Bank;") (by decide +kernel)) (fun _ h9 => h9) rfl dX4_apart_1 ?_
  refine va_get (D := (dC, dI)) (ci := 0) (v := .ref h3) (C := RX0) (T := TX0) (N := 7) hx hb hts hiX0 hown hK hP 1 rfl rfl 0 (by decide) (hts (.fieldLink RX4 61 "RestRegisters$Bank" "wheels" "LRestRegisters$Wheels;") (by decide +kernel)) (fun _ h9 => h9) rfl dX4_apart_4 ?_
  refine va_get (D := (dC, dI)) (ci := 3) (v := .int (nI rg)) (C := RX3) (T := TX3) (N := 7) hx hb hts hiX3 hown hK hP 2 rfl rfl 2 (by decide) (hts (.fieldLink RX4 107 "RestRegisters$Wheels" "range" "I") (by decide +kernel)) (fun _ h9 => h9) rfl dX4_apart_7 ?_
  refine lv_iconst (v := (nI 1)) hx hb dX4_apart_10 (by decide) ?_
  refine rn_icmp_ne (tgt := 19) hx hb dX4_apart_11 (by decide) (by omega) (by omega) (fun c11 => ?_) (fun c11 => ?_)
  · skip
    refine lv_aload_n hx hb dX4_apart_19 rfl (lv_at hl 0 rfl) ?_
    refine va_get (D := (dC, dI)) (ci := 4) (v := .ref b0) (C := RX4) (T := TX4) (N := 5) hx hb hts hiX4 hown hK hP 0 rfl rfl 1 (by decide) (hts (.fieldLink RX4 19 "RestRegisters" "now" "LRestRegisters$Bank;") (by decide +kernel)) (fun _ h9 => h9) rfl dX4_apart_20 ?_
    refine va_get (D := (dC, dI)) (ci := 0) (v := .ref h3) (C := RX0) (T := TX0) (N := 7) hx hb hts hiX0 hown hK hP 1 rfl rfl 0 (by decide) (hts (.fieldLink RX4 61 "RestRegisters$Bank" "wheels" "LRestRegisters$Wheels;") (by decide +kernel)) (fun _ h9 => h9) rfl dX4_apart_23 ?_
    refine rr_callR (va_runV (As := []) (rest := []) ⟨hx, hb, hml, hown, hts⟩ (c_X3_fewestUnlike l dC dI cI cJ cS h3 hk hw hs n h rg sp kf wf sf Kd Wd Sh (by first | assumption | omega) (by first | assumption | omega) (by first | assumption | omega)) (cwV 0 hts gX4_apart_X3_fewestUnlike rfl rfl rfl (by decide +kernel) ⟨Nat.le_of_ble_eq_true rfl, Nat.le_of_ble_eq_true rfl⟩) (rr_preV hKK (hP.sub [2, 3, 4, 5] rfl) rfl rfl) rfl rfl hl.1 rfl (lv_room (Nat.le_of_ble_eq_true rfl)) dX4_apart_26 ⟨Nat.zero_le _, Nat.zero_le _⟩) ?_
    exact rr_iret hx hb hr hlocks dX4_apart_29 (by first | (rw [if_pos c11]; done) | (rw [if_neg c11]))
  refine lv_bipush (v := (-4)) hx hb dX4_apart_14 (by decide) ?_
  refine lv_goto (tgt := 29) hx hb dX4_apart_16 (by decide) ?_
  exact rr_iret hx hb hr hlocks dX4_apart_29 (by first | (rw [if_pos c11]; done) | (rw [if_neg c11]))
set_option maxHeartbeats 4000000 in
set_option maxRecDepth 100000 in
theorem c_X4_sum_g (l : Launch) (dC : Nat → ClassId) (dI : Nat → Nat → Nat) (cI cJ cS : ClassId) (x0 t0 k0 sa : Nat) (im : Bool) (b0 h3 hk hw hs hrs hpr hpd : Nat) (n h rg sp dr kn nx : Nat) (kf wf sf : Nat → Int32) (Kd Wd Sh Rr Pr Pd : Nat → Nat) (r o t k : Nat) (ok : wOk n Kd Wd) (fk : isA n kf Kd) (fw : isA n wf Wd) (fs : isA n sf Sh) (hS : ∀ j, j < n → Sh j < sp) (hsp : sp ≤ 47045881) (hsp0 : 0 < sp) (hR : rOk n Wd Rr) (hrg : rg < 2 ^ 31) (hr4 : r < 4) (ho4 : o < 4) (ht2 : t ≤ 1000) (hk2 : k < n) : Met l yX4_sum wsX4_sum ({ frames := 5, cells := 0, slots := 0, locals := 118 }) (va_Pc [.ref x0, .int (nI r), .int (nI o), .int (nI t), .int (nI k)] (rB (dC, dI) vwCl [(x0, .inr (4, [.ref t0, .ref b0, .ref k0, .int (bi im), .ref sa])), (b0, .inr (0, [.ref h3, .ref hrs, .int (nI dr), .int (nI kn), .int (nI nx), .ref hpr, .ref hpd])), (h3, .inr (3, [.int (nI n), .int (nI h), .int (nI rg), .int (nI sp), .ref hk, .ref hw, .ref hs])), (hk, .inl (cI, 6, .inl kf)), (hw, .inl (cI, 6, .inl wf)), (hs, .inl (cI, 6, .inl sf)), (hrs, .inl (cI, 24, .inl (nA Rr))), (hpr, .inl (cI, 192, .inl (nA Pr))), (hpd, .inl (cI, 8, .inl (nA Pd)))] (tyz cI cJ cS))) (QcRead (nI (addO (Kd k) (Wd k) (Rr (r * 6 + k)) (Rr (o * 6 + k)) t))) 0 0 (fun _ => False) := by
  refine Met.ofW (cc := cX4_sum) (maxL := 5) (ret := (some .int)) (by decide) rfl ?_
  intro p e s m args below meth c s₁ B hml hv
  obtain ⟨rfl, hP, hKK⟩ := hv
  have hK := hKK.1
  have hx := B.exec
  have hb := B.bytes
  have hr := B.returns
  have hts := atoms_spec (ws := wsX4_sum) B.pre
  have hown : s.vm.findClass RX4 = some m.cls := findClass_of_methodNamed B.named
  have hlocks := B.notSynchronized
  have hiX0 : ∀ w ∈ wsX00, w ∈ wsX4_sum := by decide +kernel
  have hiX4 : ∀ w ∈ wsX40, w ∈ wsX4_sum := by decide +kernel
  have hl := lv_entry ([.ref x0, .int (nI r), .int (nI o), .int (nI t), .int (nI k)]) (n := 5) (Nat.le_of_ble_eq_true rfl)
  rw [lg_entry_eq]
  generalize (lg_sl ([.ref x0, .int (nI r), .int (nI o), .int (nI t), .int (nI k)]) ++ List.replicate (5 - (lg_sl ([.ref x0, .int (nI r), .int (nI o), .int (nI t), .int (nI k)])).length) Slot.unset).toArray = ls at hl ⊢
  have hl : lv_has ls 5 [(0, .ref x0), (1, .int (nI r)), (2, .int (nI o)), (3, .int (nI t)), (4, .int (nI k))] := hl
  have hn6 := ok.1
  refine lv_iload_n hx hb dX4_sum_0 rfl (lv_at hl 1 rfl) ?_
  refine rr_callR (va_runS (As := [.int (nI r)]) (rest := []) ⟨hx, hb, hml, hown, hts⟩ (c_X4_isRegister l (nI r) ) (va_cwS 1 hts gX4_sum_X4_isRegister rfl rfl rfl (by decide +kernel) ⟨Nat.le_of_ble_eq_true rfl, Nat.le_of_ble_eq_true rfl⟩) rr_preT rfl rfl hl.1 rfl (lv_room (Nat.le_of_ble_eq_true rfl)) dX4_sum_1 ⟨Nat.zero_le _, Nat.zero_le _⟩) ?_
  refine rr_top (y := bi true) (congrArg bi (inb_lt (by omega) (by omega))) ?_
  refine rb_if_eq (tgt := 34) hx hb dX4_sum_4 (by decide) (fun c4 => ?_) (fun c4 => ?_)
  · exact absurd c4 (by decide)
  refine lv_iload_n hx hb dX4_sum_7 rfl (lv_at hl 2 rfl) ?_
  refine rr_callR (va_runS (As := [.int (nI o)]) (rest := []) ⟨hx, hb, hml, hown, hts⟩ (c_X4_isRegister l (nI o) ) (va_cwS 1 hts gX4_sum_X4_isRegister rfl rfl rfl (by decide +kernel) ⟨Nat.le_of_ble_eq_true rfl, Nat.le_of_ble_eq_true rfl⟩) rr_preT rfl rfl hl.1 rfl (lv_room (Nat.le_of_ble_eq_true rfl)) dX4_sum_8 ⟨Nat.zero_le _, Nat.zero_le _⟩) ?_
  refine rr_top (y := bi true) (congrArg bi (inb_lt (by omega) (by omega))) ?_
  refine rb_if_eq (tgt := 34) hx hb dX4_sum_11 (by decide) (fun c11 => ?_) (fun c11 => ?_)
  · exact absurd c11 (by decide)
  refine lv_iload_n hx hb dX4_sum_14 rfl (lv_at hl 3 rfl) ?_
  refine rn_if_lt (tgt := 34) hx hb dX4_sum_15 (by decide) (by omega) ?_
  refine lv_iload_n hx hb dX4_sum_18 rfl (lv_at hl 3 rfl) ?_
  refine lv_sipush (v := (nI 1000)) hx hb dX4_sum_19 (by decide) ?_
  refine rn_icmp_gt (tgt := 34) hx hb dX4_sum_22 (by decide) (by omega) (by omega) (fun c22 => ?_) (fun c22 => ?_)
  · skip
    exact absurd c22 (by omega)
  refine lv_aload_n hx hb dX4_sum_25 rfl (lv_at hl 0 rfl) ?_
  refine lv_iload hx hb dX4_sum_26 (lv_at hl 4 rfl) ?_
  refine rr_callR (va_runV (As := [.int (nI k)]) (rest := []) ⟨hx, hb, hml, hown, hts⟩ (c_X4_isWheel l dC dI cI cJ cS x0 t0 k0 sa im b0 h3 hk hw hs hrs hpr hpd n h rg sp dr kn nx kf wf sf Kd Wd Sh Rr Pr Pd (nI k) (by first | assumption | omega)) (cwV 1 hts gX4_sum_X4_isWheel rfl rfl rfl (by decide +kernel) ⟨Nat.le_of_ble_eq_true rfl, Nat.le_of_ble_eq_true rfl⟩) (rr_preV hKK hP rfl rfl) rfl rfl hl.1 rfl (lv_room (Nat.le_of_ble_eq_true rfl)) dX4_sum_28 ⟨Nat.zero_le _, Nat.zero_le _⟩) ?_
  refine rr_top (y := bi true) (congrArg bi (inb_lt (by omega) (by omega))) ?_
  refine rb_if_ne (tgt := 36) hx hb dX4_sum_31 (by decide) (fun c31 => ?_) (fun c31 => ?_)
  rotate_left
  · exact absurd c31 (by decide)
  refine lv_aload_n hx hb dX4_sum_36 rfl (lv_at hl 0 rfl) ?_
  refine va_get (D := (dC, dI)) (ci := 4) (v := .ref b0) (C := RX4) (T := TX4) (N := 5) hx hb hts hiX4 hown hK hP 0 rfl rfl 1 (by decide) (hts (.fieldLink RX4 19 "RestRegisters" "now" "LRestRegisters$Bank;") (by decide +kernel)) (fun _ h9 => h9) rfl dX4_sum_37 ?_
  refine va_get (D := (dC, dI)) (ci := 0) (v := .ref h3) (C := RX0) (T := TX0) (N := 7) hx hb hts hiX0 hown hK hP 1 rfl rfl 0 (by decide) (hts (.fieldLink RX4 61 "RestRegisters$Bank" "wheels" "LRestRegisters$Wheels;") (by decide +kernel)) (fun _ h9 => h9) rfl dX4_sum_40 ?_
  refine lv_iload hx hb dX4_sum_43 (lv_at hl 4 rfl) ?_
  refine lv_aload_n hx hb dX4_sum_45 rfl (lv_at hl 0 rfl) ?_
  refine va_get (D := (dC, dI)) (ci := 4) (v := .ref b0) (C := RX4) (T := TX4) (N := 5) hx hb hts hiX4 hown hK hP 0 rfl rfl 1 (by decide) (hts (.fieldLink RX4 19 "RestRegisters" "now" "LRestRegisters$Bank;") (by decide +kernel)) (fun _ h9 => h9) rfl dX4_sum_46 ?_
  refine lv_iload_n hx hb dX4_sum_49 rfl (lv_at hl 1 rfl) ?_
  refine lv_iload hx hb dX4_sum_50 (lv_at hl 4 rfl) ?_
  refine rr_callR (va_runV (As := [.int (nI r), .int (nI k)]) (rest := [.int (nI k), .ref h3]) ⟨hx, hb, hml, hown, hts⟩ (c_X0_shown l dC dI cI cJ cS b0 h3 hrs hpr hpd dr kn nx Rr r k (by first | assumption | omega) (by first | assumption | omega)) (cwV 2 hts gX4_sum_X0_shown rfl rfl rfl (by decide +kernel) ⟨Nat.le_of_ble_eq_true rfl, Nat.le_of_ble_eq_true rfl⟩) (rr_preV hKK (hP.sub [1, 6] rfl) rfl rfl) rfl rfl hl.1 rfl (lv_room (Nat.le_of_ble_eq_true rfl)) dX4_sum_52 ⟨Nat.zero_le _, Nat.zero_le _⟩) ?_
  refine lv_aload_n hx hb dX4_sum_55 rfl (lv_at hl 0 rfl) ?_
  refine va_get (D := (dC, dI)) (ci := 4) (v := .ref b0) (C := RX4) (T := TX4) (N := 5) hx hb hts hiX4 hown hK hP 0 rfl rfl 1 (by decide) (hts (.fieldLink RX4 19 "RestRegisters" "now" "LRestRegisters$Bank;") (by decide +kernel)) (fun _ h9 => h9) rfl dX4_sum_56 ?_
  refine lv_iload_n hx hb dX4_sum_59 rfl (lv_at hl 2 rfl) ?_
  refine lv_iload hx hb dX4_sum_60 (lv_at hl 4 rfl) ?_
  refine rr_callR (va_runV (As := [.int (nI o), .int (nI k)]) (rest := [.int (nI (Rr (r * 6 + k))), .int (nI k), .ref h3]) ⟨hx, hb, hml, hown, hts⟩ (c_X0_shown l dC dI cI cJ cS b0 h3 hrs hpr hpd dr kn nx Rr o k (by first | assumption | omega) (by first | assumption | omega)) (cwV 2 hts gX4_sum_X0_shown rfl rfl rfl (by decide +kernel) ⟨Nat.le_of_ble_eq_true rfl, Nat.le_of_ble_eq_true rfl⟩) (rr_preV hKK (hP.sub [1, 6] rfl) rfl rfl) rfl rfl hl.1 rfl (lv_room (Nat.le_of_ble_eq_true rfl)) dX4_sum_62 ⟨Nat.zero_le _, Nat.zero_le _⟩) ?_
  refine lv_iload_n hx hb dX4_sum_65 rfl (lv_at hl 3 rfl) ?_
  refine rr_callR (va_runV (As := [.int (nI k), .int (nI (Rr (r * 6 + k))), .int (nI (Rr (o * 6 + k))), .int (nI t)]) (rest := []) ⟨hx, hb, hml, hown, hts⟩ (c_X3_addedOften l dC dI cI cJ cS h3 hk hw hs n h rg sp kf wf sf Kd Wd Sh k (Rr (r * 6 + k)) (Rr (o * 6 + k)) t (by first | assumption | omega) (by first | assumption | omega) (by first | assumption | omega) (by first | assumption | omega) (hR r k hr4 hk2) (hR o k ho4 hk2) (by first | assumption | omega)) (cwV 4 hts gX4_sum_X3_addedOften rfl rfl rfl (by decide +kernel) ⟨Nat.le_of_ble_eq_true rfl, Nat.le_of_ble_eq_true rfl⟩) (rr_preV hKK (hP.sub [2, 3, 4, 5] rfl) rfl rfl) rfl rfl hl.1 rfl (lv_room (Nat.le_of_ble_eq_true rfl)) dX4_sum_66 ⟨Nat.zero_le _, Nat.zero_le _⟩) ?_
  exact rr_iret hx hb hr hlocks dX4_sum_69 (rfl)
set_option maxHeartbeats 4000000 in
set_option maxRecDepth 100000 in
theorem c_X4_sum_b (l : Launch) (dC : Nat → ClassId) (dI : Nat → Nat → Nat) (cI cJ cS : ClassId) (x0 t0 k0 sa : Nat) (im : Bool) (b0 h3 hk hw hs hrs hpr hpd : Nat) (n h rg sp dr kn nx : Nat) (kf wf sf : Nat → Int32) (Kd Wd Sh Rr Pr Pd : Nat → Nat) (x y z u : Int32) (ok : wOk n Kd Wd) (fw : isA n wf Wd) (hbad : (inb x 4 && inb y 4 && inb z 1001 && inb u n) = false) : Met l yX4_sum wsX4_sum ({ frames := 5, cells := 0, slots := 0, locals := 118 }) (va_Pc [.ref x0, .int x, .int y, .int z, .int u] (rB (dC, dI) vwCl [(x0, .inr (4, [.ref t0, .ref b0, .ref k0, .int (bi im), .ref sa])), (b0, .inr (0, [.ref h3, .ref hrs, .int (nI dr), .int (nI kn), .int (nI nx), .ref hpr, .ref hpd])), (h3, .inr (3, [.int (nI n), .int (nI h), .int (nI rg), .int (nI sp), .ref hk, .ref hw, .ref hs])), (hk, .inl (cI, 6, .inl kf)), (hw, .inl (cI, 6, .inl wf)), (hs, .inl (cI, 6, .inl sf)), (hrs, .inl (cI, 24, .inl (nA Rr))), (hpr, .inl (cI, 192, .inl (nA Pr))), (hpd, .inl (cI, 8, .inl (nA Pd)))] (tyz cI cJ cS))) (QcRead (-1)) 0 0 (fun _ => False) := by
  refine Met.ofW (cc := cX4_sum) (maxL := 5) (ret := (some .int)) (by decide) rfl ?_
  intro p e s m args below meth c s₁ B hml hv
  obtain ⟨rfl, hP, hKK⟩ := hv
  have hK := hKK.1
  have hx := B.exec
  have hb := B.bytes
  have hr := B.returns
  have hts := atoms_spec (ws := wsX4_sum) B.pre
  have hown : s.vm.findClass RX4 = some m.cls := findClass_of_methodNamed B.named
  have hlocks := B.notSynchronized
  have hiX0 : ∀ w ∈ wsX00, w ∈ wsX4_sum := by decide +kernel
  have hiX4 : ∀ w ∈ wsX40, w ∈ wsX4_sum := by decide +kernel
  have hl := lv_entry ([.ref x0, .int x, .int y, .int z, .int u]) (n := 5) (Nat.le_of_ble_eq_true rfl)
  rw [lg_entry_eq]
  generalize (lg_sl ([.ref x0, .int x, .int y, .int z, .int u]) ++ List.replicate (5 - (lg_sl ([.ref x0, .int x, .int y, .int z, .int u])).length) Slot.unset).toArray = ls at hl ⊢
  have hl : lv_has ls 5 [(0, .ref x0), (1, .int x), (2, .int y), (3, .int z), (4, .int u)] := hl
  have hn6 := ok.1
  refine lv_iload_n hx hb dX4_sum_0 rfl (lv_at hl 1 rfl) ?_
  refine rr_callR (va_runS (As := [.int x]) (rest := []) ⟨hx, hb, hml, hown, hts⟩ (c_X4_isRegister l x ) (va_cwS 1 hts gX4_sum_X4_isRegister rfl rfl rfl (by decide +kernel) ⟨Nat.le_of_ble_eq_true rfl, Nat.le_of_ble_eq_true rfl⟩) rr_preT rfl rfl hl.1 rfl (lv_room (Nat.le_of_ble_eq_true rfl)) dX4_sum_1 ⟨Nat.zero_le _, Nat.zero_le _⟩) ?_
  refine rb_if_eq (tgt := 34) hx hb dX4_sum_4 (by decide) (fun c4 => ?_) (fun c4 => ?_)
  · skip
    refine lv_iconst (v := (-1)) hx hb dX4_sum_34 (by decide) ?_
    exact rr_iret hx hb hr hlocks dX4_sum_35 (rfl)
  refine lv_iload_n hx hb dX4_sum_7 rfl (lv_at hl 2 rfl) ?_
  refine rr_callR (va_runS (As := [.int y]) (rest := []) ⟨hx, hb, hml, hown, hts⟩ (c_X4_isRegister l y ) (va_cwS 1 hts gX4_sum_X4_isRegister rfl rfl rfl (by decide +kernel) ⟨Nat.le_of_ble_eq_true rfl, Nat.le_of_ble_eq_true rfl⟩) rr_preT rfl rfl hl.1 rfl (lv_room (Nat.le_of_ble_eq_true rfl)) dX4_sum_8 ⟨Nat.zero_le _, Nat.zero_le _⟩) ?_
  refine rb_if_eq (tgt := 34) hx hb dX4_sum_11 (by decide) (fun c11 => ?_) (fun c11 => ?_)
  · skip
    refine lv_iconst (v := (-1)) hx hb dX4_sum_34 (by decide) ?_
    exact rr_iret hx hb hr hlocks dX4_sum_35 (rfl)
  refine lv_iload_n hx hb dX4_sum_14 rfl (lv_at hl 3 rfl) ?_
  refine lv_if_lt (tgt := 34) hx hb dX4_sum_15 (by decide) (fun c15 => ?_) (fun c15 => ?_)
  · skip
    refine lv_iconst (v := (-1)) hx hb dX4_sum_34 (by decide) ?_
    exact rr_iret hx hb hr hlocks dX4_sum_35 (rfl)
  refine lv_iload_n hx hb dX4_sum_18 rfl (lv_at hl 3 rfl) ?_
  refine lv_sipush (v := (nI 1000)) hx hb dX4_sum_19 (by decide) ?_
  refine lv_icmp_gt (tgt := 34) hx hb dX4_sum_22 (by decide) (fun c22 => ?_) (fun c22 => ?_)
  · skip
    refine lv_iconst (v := (-1)) hx hb dX4_sum_34 (by decide) ?_
    exact rr_iret hx hb hr hlocks dX4_sum_35 (rfl)
  refine lv_aload_n hx hb dX4_sum_25 rfl (lv_at hl 0 rfl) ?_
  refine lv_iload hx hb dX4_sum_26 (lv_at hl 4 rfl) ?_
  refine rr_callR (va_runV (As := [.int u]) (rest := []) ⟨hx, hb, hml, hown, hts⟩ (c_X4_isWheel l dC dI cI cJ cS x0 t0 k0 sa im b0 h3 hk hw hs hrs hpr hpd n h rg sp dr kn nx kf wf sf Kd Wd Sh Rr Pr Pd u (by first | assumption | omega)) (cwV 1 hts gX4_sum_X4_isWheel rfl rfl rfl (by decide +kernel) ⟨Nat.le_of_ble_eq_true rfl, Nat.le_of_ble_eq_true rfl⟩) (rr_preV hKK hP rfl rfl) rfl rfl hl.1 rfl (lv_room (Nat.le_of_ble_eq_true rfl)) dX4_sum_28 ⟨Nat.zero_le _, Nat.zero_le _⟩) ?_
  refine rb_if_ne (tgt := 36) hx hb dX4_sum_31 (by decide) (fun c31 => ?_) (fun c31 => ?_)
  · skip
    exact absurd hbad (by rw [c4, c11, inb_ge (n := 1000) (by decide) c15 c22, c31]; decide)
  refine lv_iconst (v := (-1)) hx hb dX4_sum_34 (by decide) ?_
  exact rr_iret hx hb hr hlocks dX4_sum_35 (rfl)
set_option maxHeartbeats 4000000 in
set_option maxRecDepth 100000 in
theorem c_X4_should_g (l : Launch) (dC : Nat → ClassId) (dI : Nat → Nat → Nat) (cI cJ cS : ClassId) (x0 t0 k0 sa : Nat) (im : Bool) (b0 h3 hk hw hs hrs hpr hpd : Nat) (n h rg sp dr kn nx : Nat) (kf wf sf : Nat → Int32) (Kd Wd Sh Rr Pr Pd : Nat → Nat) (r o : Nat) (ok : wOk n Kd Wd) (fk : isA n kf Kd) (fw : isA n wf Wd) (fs : isA n sf Sh) (hS : ∀ j, j < n → Sh j < sp) (hsp : sp ≤ 47045881) (hsp0 : 0 < sp) (hR : rOk n Wd Rr) (hrg : rg < 2 ^ 31) (hr4 : r < 4) (ho4 : o < 4) : Met l yX4_should wsX4_should ({ frames := 6, cells := 0, slots := 0, locals := 139 }) (va_Pc [.ref x0, .int (nI r), .int (nI o)] (rB (dC, dI) vwCl [(x0, .inr (4, [.ref t0, .ref b0, .ref k0, .int (bi im), .ref sa])), (b0, .inr (0, [.ref h3, .ref hrs, .int (nI dr), .int (nI kn), .int (nI nx), .ref hpr, .ref hpd])), (h3, .inr (3, [.int (nI n), .int (nI h), .int (nI rg), .int (nI sp), .ref hk, .ref hw, .ref hs])), (hk, .inl (cI, 6, .inl kf)), (hw, .inl (cI, 6, .inl wf)), (hs, .inl (cI, 6, .inl sf)), (hrs, .inl (cI, 24, .inl (nA Rr))), (hpr, .inl (cI, 192, .inl (nA Pr))), (hpd, .inl (cI, 8, .inl (nA Pd)))] (tyz cI cJ cS))) (QcRead (nI (orS (fun k => wrongB (Kd k) (Wd k) (Rr (r * 6 + k)) (Rr (o * 6 + k))) n))) 0 0 (fun _ => False) := by
  refine Met.ofW (cc := cX4_should) (maxL := 3) (ret := (some .int)) (by decide) rfl ?_
  intro p e s m args below meth c s₁ B hml hv
  obtain ⟨rfl, hP, hKK⟩ := hv
  have hK := hKK.1
  have hx := B.exec
  have hb := B.bytes
  have hr := B.returns
  have hts := atoms_spec (ws := wsX4_should) B.pre
  have hown : s.vm.findClass RX4 = some m.cls := findClass_of_methodNamed B.named
  have hlocks := B.notSynchronized
  have hiX4 : ∀ w ∈ wsX40, w ∈ wsX4_should := by decide +kernel
  have hl := lv_entry ([.ref x0, .int (nI r), .int (nI o)]) (n := 3) (Nat.le_of_ble_eq_true rfl)
  rw [lg_entry_eq]
  generalize (lg_sl ([.ref x0, .int (nI r), .int (nI o)]) ++ List.replicate (3 - (lg_sl ([.ref x0, .int (nI r), .int (nI o)])).length) Slot.unset).toArray = ls at hl ⊢
  have hl : lv_has ls 3 [(0, .ref x0), (1, .int (nI r)), (2, .int (nI o))] := hl
  have hn6 := ok.1
  refine lv_iload_n hx hb dX4_should_0 rfl (lv_at hl 1 rfl) ?_
  refine rr_callR (va_runS (As := [.int (nI r)]) (rest := []) ⟨hx, hb, hml, hown, hts⟩ (c_X4_isRegister l (nI r) ) (va_cwS 1 hts gX4_should_X4_isRegister rfl rfl rfl (by decide +kernel) ⟨Nat.le_of_ble_eq_true rfl, Nat.le_of_ble_eq_true rfl⟩) rr_preT rfl rfl hl.1 rfl (lv_room (Nat.le_of_ble_eq_true rfl)) dX4_should_1 ⟨Nat.zero_le _, Nat.zero_le _⟩) ?_
  refine rr_top (y := bi true) (congrArg bi (inb_lt (by omega) (by omega))) ?_
  refine rb_if_eq (tgt := 26) hx hb dX4_should_4 (by decide) (fun c4 => ?_) (fun c4 => ?_)
  · exact absurd c4 (by decide)
  refine lv_iload_n hx hb dX4_should_7 rfl (lv_at hl 2 rfl) ?_
  refine rr_callR (va_runS (As := [.int (nI o)]) (rest := []) ⟨hx, hb, hml, hown, hts⟩ (c_X4_isRegister l (nI o) ) (va_cwS 1 hts gX4_should_X4_isRegister rfl rfl rfl (by decide +kernel) ⟨Nat.le_of_ble_eq_true rfl, Nat.le_of_ble_eq_true rfl⟩) rr_preT rfl rfl hl.1 rfl (lv_room (Nat.le_of_ble_eq_true rfl)) dX4_should_8 ⟨Nat.zero_le _, Nat.zero_le _⟩) ?_
  refine rr_top (y := bi true) (congrArg bi (inb_lt (by omega) (by omega))) ?_
  refine rb_if_eq (tgt := 26) hx hb dX4_should_11 (by decide) (fun c11 => ?_) (fun c11 => ?_)
  · exact absurd c11 (by decide)
  refine lv_aload_n hx hb dX4_should_14 rfl (lv_at hl 0 rfl) ?_
  refine va_get (D := (dC, dI)) (ci := 4) (v := .ref b0) (C := RX4) (T := TX4) (N := 5) hx hb hts hiX4 hown hK hP 0 rfl rfl 1 (by decide) (hts (.fieldLink RX4 19 "RestRegisters" "now" "LRestRegisters$Bank;") (by decide +kernel)) (fun _ h9 => h9) rfl dX4_should_15 ?_
  refine lv_iload_n hx hb dX4_should_18 rfl (lv_at hl 1 rfl) ?_
  refine lv_iload_n hx hb dX4_should_19 rfl (lv_at hl 2 rfl) ?_
  refine rr_callR (va_runV (As := [.int (nI r), .int (nI o)]) (rest := []) ⟨hx, hb, hml, hown, hts⟩ (c_X0_wrongOnes l dC dI cI cJ cS b0 h3 hk hw hs hrs hpr hpd n h rg sp dr kn nx kf wf sf Kd Wd Sh Rr Pr Pd r o (by first | assumption | omega) (by first | assumption | omega) (by first | assumption | omega) (by first | assumption | omega) (by first | assumption | omega) (by first | assumption | omega)) (cwV 2 hts gX4_should_X0_wrongOnes rfl rfl rfl (by decide +kernel) ⟨Nat.le_of_ble_eq_true rfl, Nat.le_of_ble_eq_true rfl⟩) (rr_preV hKK (hP.sub [1, 2, 3, 4, 5, 6, 7, 8] rfl) rfl rfl) rfl rfl hl.1 rfl (lv_room (Nat.le_of_ble_eq_true rfl)) dX4_should_20 ⟨Nat.zero_le _, Nat.zero_le _⟩) ?_
  refine lv_goto (tgt := 27) hx hb dX4_should_23 (by decide) ?_
  exact rr_iret hx hb hr hlocks dX4_should_27 (rfl)
set_option maxHeartbeats 4000000 in
set_option maxRecDepth 100000 in
theorem c_X4_should_b (l : Launch) (dC : Nat → ClassId) (dI : Nat → Nat → Nat) (cI cJ cS : ClassId) (x0 t0 k0 sa : Nat) (im : Bool) (b0 h3 hk hw hs hrs hpr hpd : Nat) (n h rg sp dr kn nx : Nat) (kf wf sf : Nat → Int32) (Kd Wd Sh Rr Pr Pd : Nat → Nat) (x y : Int32) (ok : wOk n Kd Wd) (fw : isA n wf Wd) (hbad : (inb x 4 && inb y 4) = false) : Met l yX4_should wsX4_should ({ frames := 6, cells := 0, slots := 0, locals := 139 }) (va_Pc [.ref x0, .int x, .int y] (rB (dC, dI) vwCl [(x0, .inr (4, [.ref t0, .ref b0, .ref k0, .int (bi im), .ref sa])), (b0, .inr (0, [.ref h3, .ref hrs, .int (nI dr), .int (nI kn), .int (nI nx), .ref hpr, .ref hpd])), (h3, .inr (3, [.int (nI n), .int (nI h), .int (nI rg), .int (nI sp), .ref hk, .ref hw, .ref hs])), (hk, .inl (cI, 6, .inl kf)), (hw, .inl (cI, 6, .inl wf)), (hs, .inl (cI, 6, .inl sf)), (hrs, .inl (cI, 24, .inl (nA Rr))), (hpr, .inl (cI, 192, .inl (nA Pr))), (hpd, .inl (cI, 8, .inl (nA Pd)))] (tyz cI cJ cS))) (QcRead (-1)) 0 0 (fun _ => False) := by
  refine Met.ofW (cc := cX4_should) (maxL := 3) (ret := (some .int)) (by decide) rfl ?_
  intro p e s m args below meth c s₁ B hml hv
  obtain ⟨rfl, hP, hKK⟩ := hv
  have hK := hKK.1
  have hx := B.exec
  have hb := B.bytes
  have hr := B.returns
  have hts := atoms_spec (ws := wsX4_should) B.pre
  have hown : s.vm.findClass RX4 = some m.cls := findClass_of_methodNamed B.named
  have hlocks := B.notSynchronized
  have hiX4 : ∀ w ∈ wsX40, w ∈ wsX4_should := by decide +kernel
  have hl := lv_entry ([.ref x0, .int x, .int y]) (n := 3) (Nat.le_of_ble_eq_true rfl)
  rw [lg_entry_eq]
  generalize (lg_sl ([.ref x0, .int x, .int y]) ++ List.replicate (3 - (lg_sl ([.ref x0, .int x, .int y])).length) Slot.unset).toArray = ls at hl ⊢
  have hl : lv_has ls 3 [(0, .ref x0), (1, .int x), (2, .int y)] := hl
  have hn6 := ok.1
  refine lv_iload_n hx hb dX4_should_0 rfl (lv_at hl 1 rfl) ?_
  refine rr_callR (va_runS (As := [.int x]) (rest := []) ⟨hx, hb, hml, hown, hts⟩ (c_X4_isRegister l x ) (va_cwS 1 hts gX4_should_X4_isRegister rfl rfl rfl (by decide +kernel) ⟨Nat.le_of_ble_eq_true rfl, Nat.le_of_ble_eq_true rfl⟩) rr_preT rfl rfl hl.1 rfl (lv_room (Nat.le_of_ble_eq_true rfl)) dX4_should_1 ⟨Nat.zero_le _, Nat.zero_le _⟩) ?_
  refine rb_if_eq (tgt := 26) hx hb dX4_should_4 (by decide) (fun c4 => ?_) (fun c4 => ?_)
  · skip
    refine lv_iconst (v := (-1)) hx hb dX4_should_26 (by decide) ?_
    exact rr_iret hx hb hr hlocks dX4_should_27 (rfl)
  refine lv_iload_n hx hb dX4_should_7 rfl (lv_at hl 2 rfl) ?_
  refine rr_callR (va_runS (As := [.int y]) (rest := []) ⟨hx, hb, hml, hown, hts⟩ (c_X4_isRegister l y ) (va_cwS 1 hts gX4_should_X4_isRegister rfl rfl rfl (by decide +kernel) ⟨Nat.le_of_ble_eq_true rfl, Nat.le_of_ble_eq_true rfl⟩) rr_preT rfl rfl hl.1 rfl (lv_room (Nat.le_of_ble_eq_true rfl)) dX4_should_8 ⟨Nat.zero_le _, Nat.zero_le _⟩) ?_
  refine rb_if_eq (tgt := 26) hx hb dX4_should_11 (by decide) (fun c11 => ?_) (fun c11 => ?_)
  · skip
    refine lv_iconst (v := (-1)) hx hb dX4_should_26 (by decide) ?_
    exact rr_iret hx hb hr hlocks dX4_should_27 (rfl)
  exact absurd hbad (by rw [c4, c11]; decide)
set_option maxHeartbeats 4000000 in
set_option maxRecDepth 100000 in
theorem c_X4_again_g (l : Launch) (dC : Nat → ClassId) (dI : Nat → Nat → Nat) (cI cJ cS : ClassId) (x0 t0 k0 sa : Nat) (im : Bool) (b0 h3 hk hw hs hrs hpr hpd : Nat) (n h rg sp dr kn nx : Nat) (kf wf sf : Nat → Int32) (Kd Wd Sh Rr Pr Pd : Nat → Nat) (r o : Nat) (ok : wOk n Kd Wd) (fk : isA n kf Kd) (fw : isA n wf Wd) (fs : isA n sf Sh) (hS : ∀ j, j < n → Sh j < sp) (hsp : sp ≤ 47045881) (hsp0 : 0 < sp) (hR : rOk n Wd Rr) (hrg : rg < 2 ^ 31) (hr4 : r < 4) (ho4 : o < 4) : Met l yX4_again wsX4_again ({ frames := 5, cells := 0, slots := 0, locals := 117 }) (va_Pc [.ref x0, .int (nI r), .int (nI o)] (rB (dC, dI) vwCl [(x0, .inr (4, [.ref t0, .ref b0, .ref k0, .int (bi im), .ref sa])), (b0, .inr (0, [.ref h3, .ref hrs, .int (nI dr), .int (nI kn), .int (nI nx), .ref hpr, .ref hpd])), (h3, .inr (3, [.int (nI n), .int (nI h), .int (nI rg), .int (nI sp), .ref hk, .ref hw, .ref hs])), (hk, .inl (cI, 6, .inl kf)), (hw, .inl (cI, 6, .inl wf)), (hs, .inl (cI, 6, .inl sf)), (hrs, .inl (cI, 24, .inl (nA Rr))), (hpr, .inl (cI, 192, .inl (nA Pr))), (hpd, .inl (cI, 8, .inl (nA Pd)))] (tyz cI cJ cS))) (QcRead (agC (rnF Kd Wd Rr r o) n)) 0 0 (fun _ => False) := by
  refine Met.ofW (cc := cX4_again) (maxL := 6) (ret := (some .int)) (by decide) rfl ?_
  intro p e s m args below meth c s₁ B hml hv
  obtain ⟨rfl, hP, hKK⟩ := hv
  have hK := hKK.1
  have hx := B.exec
  have hb := B.bytes
  have hr := B.returns
  have hts := atoms_spec (ws := wsX4_again) B.pre
  have hown : s.vm.findClass RX4 = some m.cls := findClass_of_methodNamed B.named
  have hlocks := B.notSynchronized
  have hiX0 : ∀ w ∈ wsX00, w ∈ wsX4_again := by decide +kernel
  have hiX3 : ∀ w ∈ wsX30, w ∈ wsX4_again := by decide +kernel
  have hiX4 : ∀ w ∈ wsX40, w ∈ wsX4_again := by decide +kernel
  have hl := lv_entry ([.ref x0, .int (nI r), .int (nI o)]) (n := 6) (Nat.le_of_ble_eq_true rfl)
  rw [lg_entry_eq]
  generalize (lg_sl ([.ref x0, .int (nI r), .int (nI o)]) ++ List.replicate (6 - (lg_sl ([.ref x0, .int (nI r), .int (nI o)])).length) Slot.unset).toArray = ls at hl ⊢
  have hl : lv_has ls 6 [(0, .ref x0), (1, .int (nI r)), (2, .int (nI o))] := hl
  have hn6 := ok.1
  refine lv_iload_n hx hb dX4_again_0 rfl (lv_at hl 1 rfl) ?_
  refine rr_callR (va_runS (As := [.int (nI r)]) (rest := []) ⟨hx, hb, hml, hown, hts⟩ (c_X4_isRegister l (nI r) ) (va_cwS 1 hts gX4_again_X4_isRegister rfl rfl rfl (by decide +kernel) ⟨Nat.le_of_ble_eq_true rfl, Nat.le_of_ble_eq_true rfl⟩) rr_preT rfl rfl hl.1 rfl (lv_room (Nat.le_of_ble_eq_true rfl)) dX4_again_1 ⟨Nat.zero_le _, Nat.zero_le _⟩) ?_
  refine rr_top (y := bi true) (congrArg bi (inb_lt (by omega) (by omega))) ?_
  refine rb_if_eq (tgt := 14) hx hb dX4_again_4 (by decide) (fun c4 => ?_) (fun c4 => ?_)
  · exact absurd c4 (by decide)
  refine lv_iload_n hx hb dX4_again_7 rfl (lv_at hl 2 rfl) ?_
  refine rr_callR (va_runS (As := [.int (nI o)]) (rest := []) ⟨hx, hb, hml, hown, hts⟩ (c_X4_isRegister l (nI o) ) (va_cwS 1 hts gX4_again_X4_isRegister rfl rfl rfl (by decide +kernel) ⟨Nat.le_of_ble_eq_true rfl, Nat.le_of_ble_eq_true rfl⟩) rr_preT rfl rfl hl.1 rfl (lv_room (Nat.le_of_ble_eq_true rfl)) dX4_again_8 ⟨Nat.zero_le _, Nat.zero_le _⟩) ?_
  refine rr_top (y := bi true) (congrArg bi (inb_lt (by omega) (by omega))) ?_
  refine rb_if_ne (tgt := 16) hx hb dX4_again_11 (by decide) (fun c11 => ?_) (fun c11 => ?_)
  rotate_left
  · exact absurd c11 (by decide)
  refine lv_iconst (v := (nI 1)) hx hb dX4_again_16 (by decide) ?_
  refine lv_istore_n (lv' := [(3, .int (nI 1)), (0, .ref x0), (1, .int (nI r)), (2, .int (nI o))]) hx hb dX4_again_17 rfl hl (by decide) rfl (fun ls hl => ?_)
  refine lv_iconst (v := (nI 0)) hx hb dX4_again_18 (by decide) ?_
  refine lv_istore (lv' := [(4, .int (nI 0)), (3, .int (nI 1)), (0, .ref x0), (1, .int (nI r)), (2, .int (nI o))]) hx hb dX4_again_19 hl (by decide) rfl (fun ls hl => ?_)
  refine rl1 (A1 := Nat) (fun ls => W p l e _ s m _ below meth c s.heap [] 0 0 _ (F0 m 21 ls [])) (fun k ls => k ≤ n ∧ okL (rnF Kd Wd Rr r o) k = true ∧ lcN (rnF Kd Wd Rr r o) k ≤ 2000 ∧ lv_has ls 6 [(4, .int (nI k)), (3, .int (nI (lcN (rnF Kd Wd Rr r o) k))), (0, .ref x0), (1, .int (nI r)), (2, .int (nI o))]) (fun k => n - k) ?_ 0 ls ⟨by omega, rfl, (show 1 ≤ 2000 by decide), lv_sub hl [0, 1, 2, 3, 4] rfl⟩
  rintro k ls ⟨hi, hok, hlc, hl⟩ ih21
  refine lv_iload hx hb dX4_again_21 (lv_at hl 0 rfl) ?_
  refine lv_aload_n hx hb dX4_again_23 rfl (lv_at hl 2 rfl) ?_
  refine va_get (D := (dC, dI)) (ci := 4) (v := .ref b0) (C := RX4) (T := TX4) (N := 5) hx hb hts hiX4 hown hK hP 0 rfl rfl 1 (by decide) (hts (.fieldLink RX4 19 "RestRegisters" "now" "LRestRegisters$Bank;") (by decide +kernel)) (fun _ h9 => h9) rfl dX4_again_24 ?_
  refine va_get (D := (dC, dI)) (ci := 0) (v := .ref h3) (C := RX0) (T := TX0) (N := 7) hx hb hts hiX0 hown hK hP 1 rfl rfl 0 (by decide) (hts (.fieldLink RX4 61 "RestRegisters$Bank" "wheels" "LRestRegisters$Wheels;") (by decide +kernel)) (fun _ h9 => h9) rfl dX4_again_27 ?_
  refine va_get (D := (dC, dI)) (ci := 3) (v := .int (nI n)) (C := RX3) (T := TX3) (N := 7) hx hb hts hiX3 hown hK hP 2 rfl rfl 0 (by decide) (hts (.fieldLink RX4 104 "RestRegisters$Wheels" "size" "I") (by decide +kernel)) (fun _ h9 => h9) rfl dX4_again_30 ?_
  refine rn_icmp_ge (tgt := 106) hx hb dX4_again_33 (by decide) (by omega) (by omega) (fun c33 => ?_) (fun c33 => ?_)
  · skip
    refine lv_iload_n hx hb dX4_again_106 rfl (lv_at hl 1 rfl) ?_
    exact rr_iret hx hb hr hlocks dX4_again_107 (by have ek : k = n := Nat.le_antisymm hi c33; subst ek; unfold agC; rw [hok]; rfl)
  refine lv_aload_n hx hb dX4_again_36 rfl (lv_at hl 2 rfl) ?_
  refine va_get (D := (dC, dI)) (ci := 4) (v := .ref b0) (C := RX4) (T := TX4) (N := 5) hx hb hts hiX4 hown hK hP 0 rfl rfl 1 (by decide) (hts (.fieldLink RX4 19 "RestRegisters" "now" "LRestRegisters$Bank;") (by decide +kernel)) (fun _ h9 => h9) rfl dX4_again_37 ?_
  refine va_get (D := (dC, dI)) (ci := 0) (v := .ref h3) (C := RX0) (T := TX0) (N := 7) hx hb hts hiX0 hown hK hP 1 rfl rfl 0 (by decide) (hts (.fieldLink RX4 61 "RestRegisters$Bank" "wheels" "LRestRegisters$Wheels;") (by decide +kernel)) (fun _ h9 => h9) rfl dX4_again_40 ?_
  refine lv_iload hx hb dX4_again_43 (lv_at hl 0 rfl) ?_
  refine lv_aload_n hx hb dX4_again_45 rfl (lv_at hl 2 rfl) ?_
  refine va_get (D := (dC, dI)) (ci := 4) (v := .ref b0) (C := RX4) (T := TX4) (N := 5) hx hb hts hiX4 hown hK hP 0 rfl rfl 1 (by decide) (hts (.fieldLink RX4 19 "RestRegisters" "now" "LRestRegisters$Bank;") (by decide +kernel)) (fun _ h9 => h9) rfl dX4_again_46 ?_
  refine lv_iload_n hx hb dX4_again_49 rfl (lv_at hl 3 rfl) ?_
  refine lv_iload hx hb dX4_again_50 (lv_at hl 0 rfl) ?_
  refine rr_callR (va_runV (As := [.int (nI r), .int (nI k)]) (rest := [.int (nI k), .ref h3]) ⟨hx, hb, hml, hown, hts⟩ (c_X0_shown l dC dI cI cJ cS b0 h3 hrs hpr hpd dr kn nx Rr r k (by first | assumption | omega) (by first | assumption | omega)) (cwV 2 hts gX4_again_X0_shown rfl rfl rfl (by decide +kernel) ⟨Nat.le_of_ble_eq_true rfl, Nat.le_of_ble_eq_true rfl⟩) (rr_preV hKK (hP.sub [1, 6] rfl) rfl rfl) rfl rfl hl.1 rfl (lv_room (Nat.le_of_ble_eq_true rfl)) dX4_again_52 ⟨Nat.zero_le _, Nat.zero_le _⟩) ?_
  refine lv_aload_n hx hb dX4_again_55 rfl (lv_at hl 2 rfl) ?_
  refine va_get (D := (dC, dI)) (ci := 4) (v := .ref b0) (C := RX4) (T := TX4) (N := 5) hx hb hts hiX4 hown hK hP 0 rfl rfl 1 (by decide) (hts (.fieldLink RX4 19 "RestRegisters" "now" "LRestRegisters$Bank;") (by decide +kernel)) (fun _ h9 => h9) rfl dX4_again_56 ?_
  refine lv_iload_n hx hb dX4_again_59 rfl (lv_at hl 4 rfl) ?_
  refine lv_iload hx hb dX4_again_60 (lv_at hl 0 rfl) ?_
  refine rr_callR (va_runV (As := [.int (nI o), .int (nI k)]) (rest := [.int (nI (Rr (r * 6 + k))), .int (nI k), .ref h3]) ⟨hx, hb, hml, hown, hts⟩ (c_X0_shown l dC dI cI cJ cS b0 h3 hrs hpr hpd dr kn nx Rr o k (by first | assumption | omega) (by first | assumption | omega)) (cwV 2 hts gX4_again_X0_shown rfl rfl rfl (by decide +kernel) ⟨Nat.le_of_ble_eq_true rfl, Nat.le_of_ble_eq_true rfl⟩) (rr_preV hKK (hP.sub [1, 6] rfl) rfl rfl) rfl rfl hl.1 rfl (lv_room (Nat.le_of_ble_eq_true rfl)) dX4_again_62 ⟨Nat.zero_le _, Nat.zero_le _⟩) ?_
  refine rr_callR (va_runV (As := [.int (nI k), .int (nI (Rr (r * 6 + k))), .int (nI (Rr (o * 6 + k)))]) (rest := []) ⟨hx, hb, hml, hown, hts⟩ (c_X3_round l dC dI cI cJ cS h3 hk hw hs n h rg sp kf wf sf Kd Wd Sh k (Rr (r * 6 + k)) (Rr (o * 6 + k)) (by first | assumption | omega) (by first | assumption | omega) (by first | assumption | omega) (by first | assumption | omega) (hR r k hr4 (by omega)) (hR o k ho4 (by omega))) (cwV 3 hts gX4_again_X3_round rfl rfl rfl (by decide +kernel) ⟨Nat.le_of_ble_eq_true rfl, Nat.le_of_ble_eq_true rfl⟩) (rr_preV hKK (hP.sub [2, 3, 4, 5] rfl) rfl rfl) rfl rfl hl.1 rfl (lv_room (Nat.le_of_ble_eq_true rfl)) dX4_again_65 ⟨Nat.zero_le _, Nat.zero_le _⟩) ?_
  refine rn_top (y := (rnF Kd Wd Rr r o) k) (rfl) ?_
  have hw9 := ok.2.2.1 k (by omega)
  have hrl : (rnF Kd Wd Rr r o) k ≤ Wd k := rnd_le _ _ _ _
  refine lv_istore (lv' := [(5, .int (nI ((rnF Kd Wd Rr r o) k))), (4, .int (nI k)), (3, .int (nI (lcN (rnF Kd Wd Rr r o) k))), (0, .ref x0), (1, .int (nI r)), (2, .int (nI o))]) hx hb dX4_again_68 hl (by decide) rfl (fun ls hl => ?_)
  refine lv_iload hx hb dX4_again_70 (lv_at hl 0 rfl) ?_
  refine rn_if_ne (tgt := 78) hx hb dX4_again_72 (by decide) (by omega) (fun c72 => ?_) (fun c72 => ?_)
  · skip
    refine lv_iload_n hx hb dX4_again_78 rfl (lv_at hl 2 rfl) ?_
    refine lv_iload_n hx hb dX4_again_79 rfl (lv_at hl 2 rfl) ?_
    refine lv_iload hx hb dX4_again_80 (lv_at hl 0 rfl) ?_
    refine rr_callR (va_runS (As := [.int (nI (lcN (rnF Kd Wd Rr r o) k)), .int (nI ((rnF Kd Wd Rr r o) k))]) (rest := [.int (nI (lcN (rnF Kd Wd Rr r o) k))]) ⟨hx, hb, hml, hown, hts⟩ (c_X4_commonPart l (lcN (rnF Kd Wd Rr r o) k) ((rnF Kd Wd Rr r o) k) (by first | assumption | omega) (by first | assumption | omega)) (va_cwS 2 hts gX4_again_X4_commonPart rfl rfl rfl (by decide +kernel) ⟨Nat.le_of_ble_eq_true rfl, Nat.le_of_ble_eq_true rfl⟩) rr_preT rfl rfl hl.1 rfl (lv_room (Nat.le_of_ble_eq_true rfl)) dX4_again_82 ⟨Nat.zero_le _, Nat.zero_le _⟩) ?_
    have hg0 : 0 < Nat.gcd (lcN (rnF Kd Wd Rr r o) k) ((rnF Kd Wd Rr r o) k) := Nat.gcd_pos_of_pos_right _ (by omega)
    have hgl := Nat.gcd_le_right (lcN (rnF Kd Wd Rr r o) k) (n := (rnF Kd Wd Rr r o) k) (by omega)
    refine rn_idiv hx hb dX4_again_85 (by omega) (by omega) (by omega) ?_
    refine lv_iload hx hb dX4_again_86 (lv_at hl 0 rfl) ?_
    refine rn_imul hx hb dX4_again_88 ?_
    refine rn_top (y := lcN (rnF Kd Wd Rr r o) (k + 1)) (rfl) ?_
    have hb4 : lcN (rnF Kd Wd Rr r o) (k + 1) ≤ 2000 * 19 := Nat.mul_le_mul (Nat.le_trans (Nat.div_le_self _ _) hlc) (by omega)
    refine lv_istore_n (lv' := [(3, .int (nI (lcN (rnF Kd Wd Rr r o) (k + 1)))), (5, .int (nI ((rnF Kd Wd Rr r o) k))), (4, .int (nI k)), (0, .ref x0), (1, .int (nI r)), (2, .int (nI o))]) hx hb dX4_again_89 rfl hl (by decide) rfl (fun ls hl => ?_)
    refine lv_iload_n hx hb dX4_again_90 rfl (lv_at hl 0 rfl) ?_
    refine lv_sipush (v := (nI 2000)) hx hb dX4_again_91 (by decide) ?_
    refine rn_icmp_le (tgt := 100) hx hb dX4_again_94 (by decide) (by omega) (by omega) (fun c94 => ?_) (fun c94 => ?_)
    · skip
      refine lv_iinc (v := (nI (k + 1))) (lv' := [(4, .int (nI (k + 1))), (3, .int (nI (lcN (rnF Kd Wd Rr r o) (k + 1)))), (5, .int (nI ((rnF Kd Wd Rr r o) k))), (0, .ref x0), (1, .int (nI r)), (2, .int (nI o))]) hx hb dX4_again_100 hl (k := 2) rfl (rn_inc k 1) (by decide) rfl (fun ls hl => ?_)
      refine lv_goto (tgt := 21) hx hb dX4_again_103 (by decide) ?_
      exact ih21 (k + 1) ls ⟨by omega, by rw [okL, hok, decide_eq_true (show (rnF Kd Wd Rr r o) k ≠ 0 ∧ lcN (rnF Kd Wd Rr r o) (k + 1) ≤ 2000 from ⟨c72, c94⟩)]; rfl, c94, lv_sub hl [0, 1, 3, 4, 5] rfl⟩ (by omega)
    have hbad : okL (rnF Kd Wd Rr r o) (k + 1) = false := by rw [okL, decide_eq_false (fun q => absurd q.2 (by omega)), Bool.and_false]
    refine lv_bipush (v := (-4)) hx hb dX4_again_97 (by decide) ?_
    exact rr_iret hx hb hr hlocks dX4_again_99 (by unfold agC; rw [okL_f hbad n (by omega)]; rfl)
  have hbad : okL (rnF Kd Wd Rr r o) (k + 1) = false := by rw [okL, decide_eq_false (fun q => q.1 c72), Bool.and_false]
  refine lv_bipush (v := (-4)) hx hb dX4_again_75 (by decide) ?_
  exact rr_iret hx hb hr hlocks dX4_again_77 (by unfold agC; rw [okL_f hbad n (by omega)]; rfl)
set_option maxHeartbeats 4000000 in
set_option maxRecDepth 100000 in
theorem c_X4_again_b (l : Launch) (dC : Nat → ClassId) (dI : Nat → Nat → Nat) (cI cJ cS : ClassId) (x0 t0 k0 sa : Nat) (im : Bool) (b0 h3 hk hw hs hrs hpr hpd : Nat) (n h rg sp dr kn nx : Nat) (kf wf sf : Nat → Int32) (Kd Wd Sh Rr Pr Pd : Nat → Nat) (x y : Int32) (ok : wOk n Kd Wd) (fw : isA n wf Wd) (hbad : (inb x 4 && inb y 4) = false) : Met l yX4_again wsX4_again ({ frames := 5, cells := 0, slots := 0, locals := 117 }) (va_Pc [.ref x0, .int x, .int y] (rB (dC, dI) vwCl [(x0, .inr (4, [.ref t0, .ref b0, .ref k0, .int (bi im), .ref sa])), (b0, .inr (0, [.ref h3, .ref hrs, .int (nI dr), .int (nI kn), .int (nI nx), .ref hpr, .ref hpd])), (h3, .inr (3, [.int (nI n), .int (nI h), .int (nI rg), .int (nI sp), .ref hk, .ref hw, .ref hs])), (hk, .inl (cI, 6, .inl kf)), (hw, .inl (cI, 6, .inl wf)), (hs, .inl (cI, 6, .inl sf)), (hrs, .inl (cI, 24, .inl (nA Rr))), (hpr, .inl (cI, 192, .inl (nA Pr))), (hpd, .inl (cI, 8, .inl (nA Pd)))] (tyz cI cJ cS))) (QcRead (-1)) 0 0 (fun _ => False) := by
  refine Met.ofW (cc := cX4_again) (maxL := 6) (ret := (some .int)) (by decide) rfl ?_
  intro p e s m args below meth c s₁ B hml hv
  obtain ⟨rfl, hP, hKK⟩ := hv
  have hK := hKK.1
  have hx := B.exec
  have hb := B.bytes
  have hr := B.returns
  have hts := atoms_spec (ws := wsX4_again) B.pre
  have hown : s.vm.findClass RX4 = some m.cls := findClass_of_methodNamed B.named
  have hlocks := B.notSynchronized
  have hiX0 : ∀ w ∈ wsX00, w ∈ wsX4_again := by decide +kernel
  have hiX3 : ∀ w ∈ wsX30, w ∈ wsX4_again := by decide +kernel
  have hiX4 : ∀ w ∈ wsX40, w ∈ wsX4_again := by decide +kernel
  have hl := lv_entry ([.ref x0, .int x, .int y]) (n := 6) (Nat.le_of_ble_eq_true rfl)
  rw [lg_entry_eq]
  generalize (lg_sl ([.ref x0, .int x, .int y]) ++ List.replicate (6 - (lg_sl ([.ref x0, .int x, .int y])).length) Slot.unset).toArray = ls at hl ⊢
  have hl : lv_has ls 6 [(0, .ref x0), (1, .int x), (2, .int y)] := hl
  have hn6 := ok.1
  refine lv_iload_n hx hb dX4_again_0 rfl (lv_at hl 1 rfl) ?_
  refine rr_callR (va_runS (As := [.int x]) (rest := []) ⟨hx, hb, hml, hown, hts⟩ (c_X4_isRegister l x ) (va_cwS 1 hts gX4_again_X4_isRegister rfl rfl rfl (by decide +kernel) ⟨Nat.le_of_ble_eq_true rfl, Nat.le_of_ble_eq_true rfl⟩) rr_preT rfl rfl hl.1 rfl (lv_room (Nat.le_of_ble_eq_true rfl)) dX4_again_1 ⟨Nat.zero_le _, Nat.zero_le _⟩) ?_
  refine rb_if_eq (tgt := 14) hx hb dX4_again_4 (by decide) (fun c4 => ?_) (fun c4 => ?_)
  · skip
    refine lv_iconst (v := (-1)) hx hb dX4_again_14 (by decide) ?_
    exact rr_iret hx hb hr hlocks dX4_again_15 (rfl)
  refine lv_iload_n hx hb dX4_again_7 rfl (lv_at hl 2 rfl) ?_
  refine rr_callR (va_runS (As := [.int y]) (rest := []) ⟨hx, hb, hml, hown, hts⟩ (c_X4_isRegister l y ) (va_cwS 1 hts gX4_again_X4_isRegister rfl rfl rfl (by decide +kernel) ⟨Nat.le_of_ble_eq_true rfl, Nat.le_of_ble_eq_true rfl⟩) rr_preT rfl rfl hl.1 rfl (lv_room (Nat.le_of_ble_eq_true rfl)) dX4_again_8 ⟨Nat.zero_le _, Nat.zero_le _⟩) ?_
  refine rb_if_ne (tgt := 16) hx hb dX4_again_11 (by decide) (fun c11 => ?_) (fun c11 => ?_)
  · skip
    exact absurd hbad (by rw [c4, c11]; decide)
  refine lv_iconst (v := (-1)) hx hb dX4_again_14 (by decide) ?_
  exact rr_iret hx hb hr hlocks dX4_again_15 (rfl)
set_option maxHeartbeats 4000000 in
set_option maxRecDepth 100000 in
theorem c_X4_unseen_0 (l : Launch) (dC : Nat → ClassId) (dI : Nat → Nat → Nat) (cI cJ cS : ClassId) (x0 t0 k0 sa : Nat) (im : Bool) (b0 h3 hk hw hs hrs hpr hpd : Nat) (n h rg sp dr kn nx : Nat) (kf wf sf : Nat → Int32) (Kd Wd Sh Rr Pr Pd : Nat → Nat) (r ch : Nat) (ok : wOk n Kd Wd) (fk : isA n kf Kd) (fw : isA n wf Wd) (fs : isA n sf Sh) (hS : ∀ j, j < n → Sh j < sp) (hsp : sp ≤ 47045881) (hsp0 : 0 < sp) (hR : rOk n Wd Rr) (hrg : rg < 2 ^ 31) (hr4 : r < 4) (hc2 : ch ≤ 10) : Met l yX4_unseen wsX4_unseen ({ frames := 3, cells := 0, slots := 0, locals := 70 }) (va_Pc [.ref x0, .int (nI r), .int (nI ch), .int (nI 0)] (rB (dC, dI) vwCl [(x0, .inr (4, [.ref t0, .ref b0, .ref k0, .int (bi im), .ref sa])), (b0, .inr (0, [.ref h3, .ref hrs, .int (nI dr), .int (nI kn), .int (nI nx), .ref hpr, .ref hpd])), (h3, .inr (3, [.int (nI n), .int (nI h), .int (nI rg), .int (nI sp), .ref hk, .ref hw, .ref hs])), (hk, .inl (cI, 6, .inl kf)), (hw, .inl (cI, 6, .inl wf)), (hs, .inl (cI, 6, .inl sf)), (hrs, .inl (cI, 24, .inl (nA Rr))), (hpr, .inl (cI, 192, .inl (nA Pr))), (hpd, .inl (cI, 8, .inl (nA Pd)))] (tyz cI cJ cS))) (QcRead (nI (uC n Sh sp rg (vR Sh Rr sp n r) ch (2 ^ n) / Nat.gcd (uC n Sh sp rg (vR Sh Rr sp n r) ch (2 ^ n)) (10 ^ n)))) 0 0 (fun _ => False) := by
  refine Met.ofW (cc := cX4_unseen) (maxL := 7) (ret := (some .int)) (by decide) rfl ?_
  intro p e s m args below meth c s₁ B hml hv
  obtain ⟨rfl, hP, hKK⟩ := hv
  have hK := hKK.1
  have hx := B.exec
  have hb := B.bytes
  have hr := B.returns
  have hts := atoms_spec (ws := wsX4_unseen) B.pre
  have hown : s.vm.findClass RX4 = some m.cls := findClass_of_methodNamed B.named
  have hlocks := B.notSynchronized
  have hiX0 : ∀ w ∈ wsX00, w ∈ wsX4_unseen := by decide +kernel
  have hiX3 : ∀ w ∈ wsX30, w ∈ wsX4_unseen := by decide +kernel
  have hiX4 : ∀ w ∈ wsX40, w ∈ wsX4_unseen := by decide +kernel
  have hl := lv_entry ([.ref x0, .int (nI r), .int (nI ch), .int (nI 0)]) (n := 7) (Nat.le_of_ble_eq_true rfl)
  rw [lg_entry_eq]
  generalize (lg_sl ([.ref x0, .int (nI r), .int (nI ch), .int (nI 0)]) ++ List.replicate (7 - (lg_sl ([.ref x0, .int (nI r), .int (nI ch), .int (nI 0)])).length) Slot.unset).toArray = ls at hl ⊢
  have hl : lv_has ls 7 [(0, .ref x0), (1, .int (nI r)), (2, .int (nI ch)), (3, .int (nI 0))] := hl
  have hn6 := ok.1
  have hvl : vR Sh Rr sp n r < sp := vS_lt (S := Sh) (r := fun k => Rr (r * 6 + k)) hsp0 n
  have h2n := two_b hn6
  have h10 : 10 ^ n ≤ 1000000 := Nat.le_trans (Nat.pow_le_pow_right (by decide) hn6) (by decide)
  have h101 : 1 ≤ 10 ^ n := Nat.pow_pos (by decide)
  have hup := uC_le hn6 Sh sp rg (vR Sh Rr sp n r) hc2 (2 ^ n) (Nat.le_refl _)
  have hup2 : uC n Sh sp rg (vR Sh Rr sp n r) ch (2 ^ n) < 2 ^ 31 := Nat.lt_of_le_of_lt hup (Nat.lt_of_le_of_lt (Nat.mul_le_mul_right 1000000 h2n.2) (by decide))
  have hg0 : 0 < Nat.gcd (uC n Sh sp rg (vR Sh Rr sp n r) ch (2 ^ n)) (10 ^ n) := Nat.gcd_pos_of_pos_right _ h101
  have hgl : Nat.gcd (uC n Sh sp rg (vR Sh Rr sp n r) ch (2 ^ n)) (10 ^ n) ≤ 10 ^ n := Nat.gcd_le_right _ h101
  refine lv_iload_n hx hb dX4_unseen_0 rfl (lv_at hl 1 rfl) ?_
  refine rr_callR (va_runS (As := [.int (nI r)]) (rest := []) ⟨hx, hb, hml, hown, hts⟩ (c_X4_isRegister l (nI r) ) (va_cwS 1 hts gX4_unseen_X4_isRegister rfl rfl rfl (by decide +kernel) ⟨Nat.le_of_ble_eq_true rfl, Nat.le_of_ble_eq_true rfl⟩) rr_preT rfl rfl hl.1 rfl (lv_room (Nat.le_of_ble_eq_true rfl)) dX4_unseen_1 ⟨Nat.zero_le _, Nat.zero_le _⟩) ?_
  refine rr_top (y := bi true) (congrArg bi (inb_lt (by omega) (by omega))) ?_
  refine rb_if_eq (tgt := 25) hx hb dX4_unseen_4 (by decide) (fun c4 => ?_) (fun c4 => ?_)
  · exact absurd c4 (by decide)
  refine lv_iload_n hx hb dX4_unseen_7 rfl (lv_at hl 2 rfl) ?_
  refine rn_if_lt (tgt := 25) hx hb dX4_unseen_8 (by decide) (by omega) ?_
  refine lv_iload_n hx hb dX4_unseen_11 rfl (lv_at hl 2 rfl) ?_
  refine lv_bipush (v := (nI 10)) hx hb dX4_unseen_12 (by decide) ?_
  refine rn_icmp_gt (tgt := 25) hx hb dX4_unseen_14 (by decide) (by omega) (by omega) (fun c14 => ?_) (fun c14 => ?_)
  · skip
    exact absurd c14 (by omega)
  refine lv_iload_n hx hb dX4_unseen_17 rfl (lv_at hl 3 rfl) ?_
  refine lv_iconst (v := (nI 2)) hx hb dX4_unseen_18 (by decide) ?_
  refine rr_callR (va_runS (As := [.int (nI 0), .int (nI 2)]) (rest := []) ⟨hx, hb, hml, hown, hts⟩ (c_X4_isBelow l (nI 0) 2 (by first | assumption | omega)) (va_cwS 2 hts gX4_unseen_X4_isBelow rfl rfl rfl (by decide +kernel) ⟨Nat.le_of_ble_eq_true rfl, Nat.le_of_ble_eq_true rfl⟩) rr_preT rfl rfl hl.1 rfl (lv_room (Nat.le_of_ble_eq_true rfl)) dX4_unseen_19 ⟨Nat.zero_le _, Nat.zero_le _⟩) ?_
  refine rr_top (y := bi true) (congrArg bi (inb_lt (by omega) (by omega))) ?_
  refine rb_if_ne (tgt := 27) hx hb dX4_unseen_22 (by decide) (fun c22 => ?_) (fun c22 => ?_)
  rotate_left
  · exact absurd c22 (by decide)
  refine lv_aload_n hx hb dX4_unseen_27 rfl (lv_at hl 0 rfl) ?_
  refine va_get (D := (dC, dI)) (ci := 4) (v := .ref b0) (C := RX4) (T := TX4) (N := 5) hx hb hts hiX4 hown hK hP 0 rfl rfl 1 (by decide) (hts (.fieldLink RX4 19 "RestRegisters" "now" "LRestRegisters$Bank;") (by decide +kernel)) (fun _ h9 => h9) rfl dX4_unseen_28 ?_
  refine va_get (D := (dC, dI)) (ci := 0) (v := .ref h3) (C := RX0) (T := TX0) (N := 7) hx hb hts hiX0 hown hK hP 1 rfl rfl 0 (by decide) (hts (.fieldLink RX4 61 "RestRegisters$Bank" "wheels" "LRestRegisters$Wheels;") (by decide +kernel)) (fun _ h9 => h9) rfl dX4_unseen_31 ?_
  refine lv_aload_n hx hb dX4_unseen_34 rfl (lv_at hl 0 rfl) ?_
  refine va_get (D := (dC, dI)) (ci := 4) (v := .ref b0) (C := RX4) (T := TX4) (N := 5) hx hb hts hiX4 hown hK hP 0 rfl rfl 1 (by decide) (hts (.fieldLink RX4 19 "RestRegisters" "now" "LRestRegisters$Bank;") (by decide +kernel)) (fun _ h9 => h9) rfl dX4_unseen_35 ?_
  refine lv_iload_n hx hb dX4_unseen_38 rfl (lv_at hl 1 rfl) ?_
  refine rr_callR (va_runV (As := [.int (nI r)]) (rest := [.ref h3]) ⟨hx, hb, hml, hown, hts⟩ (c_X0_value l dC dI cI cJ cS b0 h3 hk hw hs hrs hpr hpd n h rg sp dr kn nx kf wf sf Kd Wd Sh Rr Pr Pd r (by first | assumption | omega) (by first | assumption | omega) (by first | assumption | omega) (by first | assumption | omega) (by first | assumption | omega) (by first | assumption | omega) (by first | assumption | omega)) (cwV 1 hts gX4_unseen_X0_value rfl rfl rfl (by decide +kernel) ⟨Nat.le_of_ble_eq_true rfl, Nat.le_of_ble_eq_true rfl⟩) (rr_preV hKK (hP.sub [1, 2, 3, 4, 5, 6, 7, 8] rfl) rfl rfl) rfl rfl hl.1 rfl (lv_room (Nat.le_of_ble_eq_true rfl)) dX4_unseen_39 ⟨Nat.zero_le _, Nat.zero_le _⟩) ?_
  refine lv_iload_n hx hb dX4_unseen_42 rfl (lv_at hl 2 rfl) ?_
  refine rr_callR (va_runV (As := [.int (nI (vR Sh Rr sp n r)), .int (nI ch)]) (rest := []) ⟨hx, hb, hml, hown, hts⟩ (c_X3_unseenCases l dC dI cI cJ cS h3 hk hw hs n h rg sp kf wf sf Kd Wd Sh (vR Sh Rr sp n r) ch (by first | assumption | omega) (by first | assumption | omega) (by first | assumption | omega) (by first | assumption | omega) (by first | assumption | omega) (by first | assumption | omega) (by first | assumption | omega)) (cwV 2 hts gX4_unseen_X3_unseenCases rfl rfl rfl (by decide +kernel) ⟨Nat.le_of_ble_eq_true rfl, Nat.le_of_ble_eq_true rfl⟩) (rr_preV hKK (hP.sub [2, 3, 4, 5] rfl) rfl rfl) rfl rfl hl.1 rfl (lv_room (Nat.le_of_ble_eq_true rfl)) dX4_unseen_43 ⟨Nat.zero_le _, Nat.zero_le _⟩) ?_
  refine lv_istore (lv' := [(4, .int (nI (uC n Sh sp rg (vR Sh Rr sp n r) ch (2 ^ n)))), (0, .ref x0), (1, .int (nI r)), (2, .int (nI ch)), (3, .int (nI 0))]) hx hb dX4_unseen_46 hl (by decide) rfl (fun ls hl => ?_)
  refine lv_bipush (v := (nI 10)) hx hb dX4_unseen_48 (by decide) ?_
  refine lv_aload_n hx hb dX4_unseen_50 rfl (lv_at hl 1 rfl) ?_
  refine va_get (D := (dC, dI)) (ci := 4) (v := .ref b0) (C := RX4) (T := TX4) (N := 5) hx hb hts hiX4 hown hK hP 0 rfl rfl 1 (by decide) (hts (.fieldLink RX4 19 "RestRegisters" "now" "LRestRegisters$Bank;") (by decide +kernel)) (fun _ h9 => h9) rfl dX4_unseen_51 ?_
  refine va_get (D := (dC, dI)) (ci := 0) (v := .ref h3) (C := RX0) (T := TX0) (N := 7) hx hb hts hiX0 hown hK hP 1 rfl rfl 0 (by decide) (hts (.fieldLink RX4 61 "RestRegisters$Bank" "wheels" "LRestRegisters$Wheels;") (by decide +kernel)) (fun _ h9 => h9) rfl dX4_unseen_54 ?_
  refine va_get (D := (dC, dI)) (ci := 3) (v := .int (nI n)) (C := RX3) (T := TX3) (N := 7) hx hb hts hiX3 hown hK hP 2 rfl rfl 0 (by decide) (hts (.fieldLink RX4 104 "RestRegisters$Wheels" "size" "I") (by decide +kernel)) (fun _ h9 => h9) rfl dX4_unseen_57 ?_
  refine rr_callR (va_runS (As := [.int (nI 10), .int (nI n)]) (rest := []) ⟨hx, hb, hml, hown, hts⟩ (c_X4_power l 10 n (by first | assumption | omega)) (va_cwS 2 hts gX4_unseen_X4_power rfl rfl rfl (by decide +kernel) ⟨Nat.le_of_ble_eq_true rfl, Nat.le_of_ble_eq_true rfl⟩) rr_preT rfl rfl hl.1 rfl (lv_room (Nat.le_of_ble_eq_true rfl)) dX4_unseen_60 ⟨Nat.zero_le _, Nat.zero_le _⟩) ?_
  refine lv_istore (lv' := [(5, .int (nI (10 ^ n))), (4, .int (nI (uC n Sh sp rg (vR Sh Rr sp n r) ch (2 ^ n)))), (0, .ref x0), (1, .int (nI r)), (2, .int (nI ch)), (3, .int (nI 0))]) hx hb dX4_unseen_63 hl (by decide) rfl (fun ls hl => ?_)
  refine lv_iload hx hb dX4_unseen_65 (lv_at hl 1 rfl) ?_
  refine lv_iload hx hb dX4_unseen_67 (lv_at hl 0 rfl) ?_
  refine rr_callR (va_runS (As := [.int (nI (uC n Sh sp rg (vR Sh Rr sp n r) ch (2 ^ n))), .int (nI (10 ^ n))]) (rest := []) ⟨hx, hb, hml, hown, hts⟩ (c_X4_commonPart l (uC n Sh sp rg (vR Sh Rr sp n r) ch (2 ^ n)) (10 ^ n) (hup2) (by first | assumption | omega)) (va_cwS 2 hts gX4_unseen_X4_commonPart rfl rfl rfl (by decide +kernel) ⟨Nat.le_of_ble_eq_true rfl, Nat.le_of_ble_eq_true rfl⟩) rr_preT rfl rfl hl.1 rfl (lv_room (Nat.le_of_ble_eq_true rfl)) dX4_unseen_69 ⟨Nat.zero_le _, Nat.zero_le _⟩) ?_
  refine lv_istore (lv' := [(6, .int (nI (Nat.gcd (uC n Sh sp rg (vR Sh Rr sp n r) ch (2 ^ n)) (10 ^ n)))), (5, .int (nI (10 ^ n))), (4, .int (nI (uC n Sh sp rg (vR Sh Rr sp n r) ch (2 ^ n)))), (0, .ref x0), (1, .int (nI r)), (2, .int (nI ch)), (3, .int (nI 0))]) hx hb dX4_unseen_72 hl (by decide) rfl (fun ls hl => ?_)
  refine lv_iload_n hx hb dX4_unseen_74 rfl (lv_at hl 6 rfl) ?_
  refine rn_if_ne (tgt := 86) hx hb dX4_unseen_75 (by decide) (by omega) (fun c75 => ?_) (fun c75 => ?_)
  · skip
    exact absurd rfl c75
  refine lv_iload hx hb dX4_unseen_78 (lv_at hl 2 rfl) ?_
  refine lv_iload hx hb dX4_unseen_80 (lv_at hl 0 rfl) ?_
  refine rn_idiv hx hb dX4_unseen_82 hup2 hg0 (by omega) ?_
  refine lv_goto (tgt := 91) hx hb dX4_unseen_83 (by decide) ?_
  exact rr_iret hx hb hr hlocks dX4_unseen_91 (rfl)
set_option maxHeartbeats 4000000 in
set_option maxRecDepth 100000 in
theorem c_X4_unseen_1 (l : Launch) (dC : Nat → ClassId) (dI : Nat → Nat → Nat) (cI cJ cS : ClassId) (x0 t0 k0 sa : Nat) (im : Bool) (b0 h3 hk hw hs hrs hpr hpd : Nat) (n h rg sp dr kn nx : Nat) (kf wf sf : Nat → Int32) (Kd Wd Sh Rr Pr Pd : Nat → Nat) (r ch : Nat) (ok : wOk n Kd Wd) (fk : isA n kf Kd) (fw : isA n wf Wd) (fs : isA n sf Sh) (hS : ∀ j, j < n → Sh j < sp) (hsp : sp ≤ 47045881) (hsp0 : 0 < sp) (hR : rOk n Wd Rr) (hrg : rg < 2 ^ 31) (hr4 : r < 4) (hc2 : ch ≤ 10) : Met l yX4_unseen wsX4_unseen ({ frames := 3, cells := 0, slots := 0, locals := 70 }) (va_Pc [.ref x0, .int (nI r), .int (nI ch), .int (nI 1)] (rB (dC, dI) vwCl [(x0, .inr (4, [.ref t0, .ref b0, .ref k0, .int (bi im), .ref sa])), (b0, .inr (0, [.ref h3, .ref hrs, .int (nI dr), .int (nI kn), .int (nI nx), .ref hpr, .ref hpd])), (h3, .inr (3, [.int (nI n), .int (nI h), .int (nI rg), .int (nI sp), .ref hk, .ref hw, .ref hs])), (hk, .inl (cI, 6, .inl kf)), (hw, .inl (cI, 6, .inl wf)), (hs, .inl (cI, 6, .inl sf)), (hrs, .inl (cI, 24, .inl (nA Rr))), (hpr, .inl (cI, 192, .inl (nA Pr))), (hpd, .inl (cI, 8, .inl (nA Pd)))] (tyz cI cJ cS))) (QcRead (nI (10 ^ n / Nat.gcd (uC n Sh sp rg (vR Sh Rr sp n r) ch (2 ^ n)) (10 ^ n)))) 0 0 (fun _ => False) := by
  refine Met.ofW (cc := cX4_unseen) (maxL := 7) (ret := (some .int)) (by decide) rfl ?_
  intro p e s m args below meth c s₁ B hml hv
  obtain ⟨rfl, hP, hKK⟩ := hv
  have hK := hKK.1
  have hx := B.exec
  have hb := B.bytes
  have hr := B.returns
  have hts := atoms_spec (ws := wsX4_unseen) B.pre
  have hown : s.vm.findClass RX4 = some m.cls := findClass_of_methodNamed B.named
  have hlocks := B.notSynchronized
  have hiX0 : ∀ w ∈ wsX00, w ∈ wsX4_unseen := by decide +kernel
  have hiX3 : ∀ w ∈ wsX30, w ∈ wsX4_unseen := by decide +kernel
  have hiX4 : ∀ w ∈ wsX40, w ∈ wsX4_unseen := by decide +kernel
  have hl := lv_entry ([.ref x0, .int (nI r), .int (nI ch), .int (nI 1)]) (n := 7) (Nat.le_of_ble_eq_true rfl)
  rw [lg_entry_eq]
  generalize (lg_sl ([.ref x0, .int (nI r), .int (nI ch), .int (nI 1)]) ++ List.replicate (7 - (lg_sl ([.ref x0, .int (nI r), .int (nI ch), .int (nI 1)])).length) Slot.unset).toArray = ls at hl ⊢
  have hl : lv_has ls 7 [(0, .ref x0), (1, .int (nI r)), (2, .int (nI ch)), (3, .int (nI 1))] := hl
  have hn6 := ok.1
  have hvl : vR Sh Rr sp n r < sp := vS_lt (S := Sh) (r := fun k => Rr (r * 6 + k)) hsp0 n
  have h2n := two_b hn6
  have h10 : 10 ^ n ≤ 1000000 := Nat.le_trans (Nat.pow_le_pow_right (by decide) hn6) (by decide)
  have h101 : 1 ≤ 10 ^ n := Nat.pow_pos (by decide)
  have hup := uC_le hn6 Sh sp rg (vR Sh Rr sp n r) hc2 (2 ^ n) (Nat.le_refl _)
  have hup2 : uC n Sh sp rg (vR Sh Rr sp n r) ch (2 ^ n) < 2 ^ 31 := Nat.lt_of_le_of_lt hup (Nat.lt_of_le_of_lt (Nat.mul_le_mul_right 1000000 h2n.2) (by decide))
  have hg0 : 0 < Nat.gcd (uC n Sh sp rg (vR Sh Rr sp n r) ch (2 ^ n)) (10 ^ n) := Nat.gcd_pos_of_pos_right _ h101
  have hgl : Nat.gcd (uC n Sh sp rg (vR Sh Rr sp n r) ch (2 ^ n)) (10 ^ n) ≤ 10 ^ n := Nat.gcd_le_right _ h101
  refine lv_iload_n hx hb dX4_unseen_0 rfl (lv_at hl 1 rfl) ?_
  refine rr_callR (va_runS (As := [.int (nI r)]) (rest := []) ⟨hx, hb, hml, hown, hts⟩ (c_X4_isRegister l (nI r) ) (va_cwS 1 hts gX4_unseen_X4_isRegister rfl rfl rfl (by decide +kernel) ⟨Nat.le_of_ble_eq_true rfl, Nat.le_of_ble_eq_true rfl⟩) rr_preT rfl rfl hl.1 rfl (lv_room (Nat.le_of_ble_eq_true rfl)) dX4_unseen_1 ⟨Nat.zero_le _, Nat.zero_le _⟩) ?_
  refine rr_top (y := bi true) (congrArg bi (inb_lt (by omega) (by omega))) ?_
  refine rb_if_eq (tgt := 25) hx hb dX4_unseen_4 (by decide) (fun c4 => ?_) (fun c4 => ?_)
  · exact absurd c4 (by decide)
  refine lv_iload_n hx hb dX4_unseen_7 rfl (lv_at hl 2 rfl) ?_
  refine rn_if_lt (tgt := 25) hx hb dX4_unseen_8 (by decide) (by omega) ?_
  refine lv_iload_n hx hb dX4_unseen_11 rfl (lv_at hl 2 rfl) ?_
  refine lv_bipush (v := (nI 10)) hx hb dX4_unseen_12 (by decide) ?_
  refine rn_icmp_gt (tgt := 25) hx hb dX4_unseen_14 (by decide) (by omega) (by omega) (fun c14 => ?_) (fun c14 => ?_)
  · skip
    exact absurd c14 (by omega)
  refine lv_iload_n hx hb dX4_unseen_17 rfl (lv_at hl 3 rfl) ?_
  refine lv_iconst (v := (nI 2)) hx hb dX4_unseen_18 (by decide) ?_
  refine rr_callR (va_runS (As := [.int (nI 1), .int (nI 2)]) (rest := []) ⟨hx, hb, hml, hown, hts⟩ (c_X4_isBelow l (nI 1) 2 (by first | assumption | omega)) (va_cwS 2 hts gX4_unseen_X4_isBelow rfl rfl rfl (by decide +kernel) ⟨Nat.le_of_ble_eq_true rfl, Nat.le_of_ble_eq_true rfl⟩) rr_preT rfl rfl hl.1 rfl (lv_room (Nat.le_of_ble_eq_true rfl)) dX4_unseen_19 ⟨Nat.zero_le _, Nat.zero_le _⟩) ?_
  refine rr_top (y := bi true) (congrArg bi (inb_lt (by omega) (by omega))) ?_
  refine rb_if_ne (tgt := 27) hx hb dX4_unseen_22 (by decide) (fun c22 => ?_) (fun c22 => ?_)
  rotate_left
  · exact absurd c22 (by decide)
  refine lv_aload_n hx hb dX4_unseen_27 rfl (lv_at hl 0 rfl) ?_
  refine va_get (D := (dC, dI)) (ci := 4) (v := .ref b0) (C := RX4) (T := TX4) (N := 5) hx hb hts hiX4 hown hK hP 0 rfl rfl 1 (by decide) (hts (.fieldLink RX4 19 "RestRegisters" "now" "LRestRegisters$Bank;") (by decide +kernel)) (fun _ h9 => h9) rfl dX4_unseen_28 ?_
  refine va_get (D := (dC, dI)) (ci := 0) (v := .ref h3) (C := RX0) (T := TX0) (N := 7) hx hb hts hiX0 hown hK hP 1 rfl rfl 0 (by decide) (hts (.fieldLink RX4 61 "RestRegisters$Bank" "wheels" "LRestRegisters$Wheels;") (by decide +kernel)) (fun _ h9 => h9) rfl dX4_unseen_31 ?_
  refine lv_aload_n hx hb dX4_unseen_34 rfl (lv_at hl 0 rfl) ?_
  refine va_get (D := (dC, dI)) (ci := 4) (v := .ref b0) (C := RX4) (T := TX4) (N := 5) hx hb hts hiX4 hown hK hP 0 rfl rfl 1 (by decide) (hts (.fieldLink RX4 19 "RestRegisters" "now" "LRestRegisters$Bank;") (by decide +kernel)) (fun _ h9 => h9) rfl dX4_unseen_35 ?_
  refine lv_iload_n hx hb dX4_unseen_38 rfl (lv_at hl 1 rfl) ?_
  refine rr_callR (va_runV (As := [.int (nI r)]) (rest := [.ref h3]) ⟨hx, hb, hml, hown, hts⟩ (c_X0_value l dC dI cI cJ cS b0 h3 hk hw hs hrs hpr hpd n h rg sp dr kn nx kf wf sf Kd Wd Sh Rr Pr Pd r (by first | assumption | omega) (by first | assumption | omega) (by first | assumption | omega) (by first | assumption | omega) (by first | assumption | omega) (by first | assumption | omega) (by first | assumption | omega)) (cwV 1 hts gX4_unseen_X0_value rfl rfl rfl (by decide +kernel) ⟨Nat.le_of_ble_eq_true rfl, Nat.le_of_ble_eq_true rfl⟩) (rr_preV hKK (hP.sub [1, 2, 3, 4, 5, 6, 7, 8] rfl) rfl rfl) rfl rfl hl.1 rfl (lv_room (Nat.le_of_ble_eq_true rfl)) dX4_unseen_39 ⟨Nat.zero_le _, Nat.zero_le _⟩) ?_
  refine lv_iload_n hx hb dX4_unseen_42 rfl (lv_at hl 2 rfl) ?_
  refine rr_callR (va_runV (As := [.int (nI (vR Sh Rr sp n r)), .int (nI ch)]) (rest := []) ⟨hx, hb, hml, hown, hts⟩ (c_X3_unseenCases l dC dI cI cJ cS h3 hk hw hs n h rg sp kf wf sf Kd Wd Sh (vR Sh Rr sp n r) ch (by first | assumption | omega) (by first | assumption | omega) (by first | assumption | omega) (by first | assumption | omega) (by first | assumption | omega) (by first | assumption | omega) (by first | assumption | omega)) (cwV 2 hts gX4_unseen_X3_unseenCases rfl rfl rfl (by decide +kernel) ⟨Nat.le_of_ble_eq_true rfl, Nat.le_of_ble_eq_true rfl⟩) (rr_preV hKK (hP.sub [2, 3, 4, 5] rfl) rfl rfl) rfl rfl hl.1 rfl (lv_room (Nat.le_of_ble_eq_true rfl)) dX4_unseen_43 ⟨Nat.zero_le _, Nat.zero_le _⟩) ?_
  refine lv_istore (lv' := [(4, .int (nI (uC n Sh sp rg (vR Sh Rr sp n r) ch (2 ^ n)))), (0, .ref x0), (1, .int (nI r)), (2, .int (nI ch)), (3, .int (nI 1))]) hx hb dX4_unseen_46 hl (by decide) rfl (fun ls hl => ?_)
  refine lv_bipush (v := (nI 10)) hx hb dX4_unseen_48 (by decide) ?_
  refine lv_aload_n hx hb dX4_unseen_50 rfl (lv_at hl 1 rfl) ?_
  refine va_get (D := (dC, dI)) (ci := 4) (v := .ref b0) (C := RX4) (T := TX4) (N := 5) hx hb hts hiX4 hown hK hP 0 rfl rfl 1 (by decide) (hts (.fieldLink RX4 19 "RestRegisters" "now" "LRestRegisters$Bank;") (by decide +kernel)) (fun _ h9 => h9) rfl dX4_unseen_51 ?_
  refine va_get (D := (dC, dI)) (ci := 0) (v := .ref h3) (C := RX0) (T := TX0) (N := 7) hx hb hts hiX0 hown hK hP 1 rfl rfl 0 (by decide) (hts (.fieldLink RX4 61 "RestRegisters$Bank" "wheels" "LRestRegisters$Wheels;") (by decide +kernel)) (fun _ h9 => h9) rfl dX4_unseen_54 ?_
  refine va_get (D := (dC, dI)) (ci := 3) (v := .int (nI n)) (C := RX3) (T := TX3) (N := 7) hx hb hts hiX3 hown hK hP 2 rfl rfl 0 (by decide) (hts (.fieldLink RX4 104 "RestRegisters$Wheels" "size" "I") (by decide +kernel)) (fun _ h9 => h9) rfl dX4_unseen_57 ?_
  refine rr_callR (va_runS (As := [.int (nI 10), .int (nI n)]) (rest := []) ⟨hx, hb, hml, hown, hts⟩ (c_X4_power l 10 n (by first | assumption | omega)) (va_cwS 2 hts gX4_unseen_X4_power rfl rfl rfl (by decide +kernel) ⟨Nat.le_of_ble_eq_true rfl, Nat.le_of_ble_eq_true rfl⟩) rr_preT rfl rfl hl.1 rfl (lv_room (Nat.le_of_ble_eq_true rfl)) dX4_unseen_60 ⟨Nat.zero_le _, Nat.zero_le _⟩) ?_
  refine lv_istore (lv' := [(5, .int (nI (10 ^ n))), (4, .int (nI (uC n Sh sp rg (vR Sh Rr sp n r) ch (2 ^ n)))), (0, .ref x0), (1, .int (nI r)), (2, .int (nI ch)), (3, .int (nI 1))]) hx hb dX4_unseen_63 hl (by decide) rfl (fun ls hl => ?_)
  refine lv_iload hx hb dX4_unseen_65 (lv_at hl 1 rfl) ?_
  refine lv_iload hx hb dX4_unseen_67 (lv_at hl 0 rfl) ?_
  refine rr_callR (va_runS (As := [.int (nI (uC n Sh sp rg (vR Sh Rr sp n r) ch (2 ^ n))), .int (nI (10 ^ n))]) (rest := []) ⟨hx, hb, hml, hown, hts⟩ (c_X4_commonPart l (uC n Sh sp rg (vR Sh Rr sp n r) ch (2 ^ n)) (10 ^ n) (hup2) (by first | assumption | omega)) (va_cwS 2 hts gX4_unseen_X4_commonPart rfl rfl rfl (by decide +kernel) ⟨Nat.le_of_ble_eq_true rfl, Nat.le_of_ble_eq_true rfl⟩) rr_preT rfl rfl hl.1 rfl (lv_room (Nat.le_of_ble_eq_true rfl)) dX4_unseen_69 ⟨Nat.zero_le _, Nat.zero_le _⟩) ?_
  refine lv_istore (lv' := [(6, .int (nI (Nat.gcd (uC n Sh sp rg (vR Sh Rr sp n r) ch (2 ^ n)) (10 ^ n)))), (5, .int (nI (10 ^ n))), (4, .int (nI (uC n Sh sp rg (vR Sh Rr sp n r) ch (2 ^ n)))), (0, .ref x0), (1, .int (nI r)), (2, .int (nI ch)), (3, .int (nI 1))]) hx hb dX4_unseen_72 hl (by decide) rfl (fun ls hl => ?_)
  refine lv_iload_n hx hb dX4_unseen_74 rfl (lv_at hl 6 rfl) ?_
  refine rn_if_ne (tgt := 86) hx hb dX4_unseen_75 (by decide) (by omega) (fun c75 => ?_) (fun c75 => ?_)
  · skip
    refine lv_iload hx hb dX4_unseen_86 (lv_at hl 1 rfl) ?_
    refine lv_iload hx hb dX4_unseen_88 (lv_at hl 0 rfl) ?_
    refine rn_idiv hx hb dX4_unseen_90 (by omega) hg0 (by omega) ?_
    exact rr_iret hx hb hr hlocks dX4_unseen_91 (rfl)
  exact absurd c75 (by decide)
set_option maxHeartbeats 4000000 in
set_option maxRecDepth 100000 in
theorem c_X4_unseen_b (l : Launch) (dC : Nat → ClassId) (dI : Nat → Nat → Nat) (cI cJ cS : ClassId) (x0 t0 k0 sa : Nat) (im : Bool) (b0 h3 hk hw hs hrs hpr hpd : Nat) (n h rg sp dr kn nx : Nat) (kf wf sf : Nat → Int32) (Kd Wd Sh Rr Pr Pd : Nat → Nat) (x y z : Int32) (ok : wOk n Kd Wd) (fw : isA n wf Wd) (hbad : (inb x 4 && inb y 11 && inb z 2) = false) : Met l yX4_unseen wsX4_unseen ({ frames := 3, cells := 0, slots := 0, locals := 70 }) (va_Pc [.ref x0, .int x, .int y, .int z] (rB (dC, dI) vwCl [(x0, .inr (4, [.ref t0, .ref b0, .ref k0, .int (bi im), .ref sa])), (b0, .inr (0, [.ref h3, .ref hrs, .int (nI dr), .int (nI kn), .int (nI nx), .ref hpr, .ref hpd])), (h3, .inr (3, [.int (nI n), .int (nI h), .int (nI rg), .int (nI sp), .ref hk, .ref hw, .ref hs])), (hk, .inl (cI, 6, .inl kf)), (hw, .inl (cI, 6, .inl wf)), (hs, .inl (cI, 6, .inl sf)), (hrs, .inl (cI, 24, .inl (nA Rr))), (hpr, .inl (cI, 192, .inl (nA Pr))), (hpd, .inl (cI, 8, .inl (nA Pd)))] (tyz cI cJ cS))) (QcRead (-1)) 0 0 (fun _ => False) := by
  refine Met.ofW (cc := cX4_unseen) (maxL := 7) (ret := (some .int)) (by decide) rfl ?_
  intro p e s m args below meth c s₁ B hml hv
  obtain ⟨rfl, hP, hKK⟩ := hv
  have hK := hKK.1
  have hx := B.exec
  have hb := B.bytes
  have hr := B.returns
  have hts := atoms_spec (ws := wsX4_unseen) B.pre
  have hown : s.vm.findClass RX4 = some m.cls := findClass_of_methodNamed B.named
  have hlocks := B.notSynchronized
  have hiX0 : ∀ w ∈ wsX00, w ∈ wsX4_unseen := by decide +kernel
  have hiX3 : ∀ w ∈ wsX30, w ∈ wsX4_unseen := by decide +kernel
  have hiX4 : ∀ w ∈ wsX40, w ∈ wsX4_unseen := by decide +kernel
  have hl := lv_entry ([.ref x0, .int x, .int y, .int z]) (n := 7) (Nat.le_of_ble_eq_true rfl)
  rw [lg_entry_eq]
  generalize (lg_sl ([.ref x0, .int x, .int y, .int z]) ++ List.replicate (7 - (lg_sl ([.ref x0, .int x, .int y, .int z])).length) Slot.unset).toArray = ls at hl ⊢
  have hl : lv_has ls 7 [(0, .ref x0), (1, .int x), (2, .int y), (3, .int z)] := hl
  have hn6 := ok.1
  refine lv_iload_n hx hb dX4_unseen_0 rfl (lv_at hl 1 rfl) ?_
  refine rr_callR (va_runS (As := [.int x]) (rest := []) ⟨hx, hb, hml, hown, hts⟩ (c_X4_isRegister l x ) (va_cwS 1 hts gX4_unseen_X4_isRegister rfl rfl rfl (by decide +kernel) ⟨Nat.le_of_ble_eq_true rfl, Nat.le_of_ble_eq_true rfl⟩) rr_preT rfl rfl hl.1 rfl (lv_room (Nat.le_of_ble_eq_true rfl)) dX4_unseen_1 ⟨Nat.zero_le _, Nat.zero_le _⟩) ?_
  refine rb_if_eq (tgt := 25) hx hb dX4_unseen_4 (by decide) (fun c4 => ?_) (fun c4 => ?_)
  · skip
    refine lv_iconst (v := (-1)) hx hb dX4_unseen_25 (by decide) ?_
    exact rr_iret hx hb hr hlocks dX4_unseen_26 (rfl)
  refine lv_iload_n hx hb dX4_unseen_7 rfl (lv_at hl 2 rfl) ?_
  refine lv_if_lt (tgt := 25) hx hb dX4_unseen_8 (by decide) (fun c8 => ?_) (fun c8 => ?_)
  · skip
    refine lv_iconst (v := (-1)) hx hb dX4_unseen_25 (by decide) ?_
    exact rr_iret hx hb hr hlocks dX4_unseen_26 (rfl)
  refine lv_iload_n hx hb dX4_unseen_11 rfl (lv_at hl 2 rfl) ?_
  refine lv_bipush (v := (nI 10)) hx hb dX4_unseen_12 (by decide) ?_
  refine lv_icmp_gt (tgt := 25) hx hb dX4_unseen_14 (by decide) (fun c14 => ?_) (fun c14 => ?_)
  · skip
    refine lv_iconst (v := (-1)) hx hb dX4_unseen_25 (by decide) ?_
    exact rr_iret hx hb hr hlocks dX4_unseen_26 (rfl)
  refine lv_iload_n hx hb dX4_unseen_17 rfl (lv_at hl 3 rfl) ?_
  refine lv_iconst (v := (nI 2)) hx hb dX4_unseen_18 (by decide) ?_
  refine rr_callR (va_runS (As := [.int z, .int (nI 2)]) (rest := []) ⟨hx, hb, hml, hown, hts⟩ (c_X4_isBelow l z 2 (by first | assumption | omega)) (va_cwS 2 hts gX4_unseen_X4_isBelow rfl rfl rfl (by decide +kernel) ⟨Nat.le_of_ble_eq_true rfl, Nat.le_of_ble_eq_true rfl⟩) rr_preT rfl rfl hl.1 rfl (lv_room (Nat.le_of_ble_eq_true rfl)) dX4_unseen_19 ⟨Nat.zero_le _, Nat.zero_le _⟩) ?_
  refine rb_if_ne (tgt := 27) hx hb dX4_unseen_22 (by decide) (fun c22 => ?_) (fun c22 => ?_)
  · skip
    exact absurd hbad (by rw [c4, inb_ge (n := 10) (by decide) c8 c14, c22]; decide)
  refine lv_iconst (v := (-1)) hx hb dX4_unseen_25 (by decide) ?_
  exact rr_iret hx hb hr hlocks dX4_unseen_26 (rfl)
