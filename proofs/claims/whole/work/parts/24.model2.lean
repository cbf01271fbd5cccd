set_option maxHeartbeats 4000000 in
set_option maxRecDepth 100000 in
theorem c_X5_of_0 (l : Launch) (dC : Nat → ClassId) (dI : Nat → Nat → Nat) (cI cJ cS : ClassId) (m0 mw mt ml mz mi mr md mh : Nat) (im : Bool) (tl at0 st0 nu rm rh : Nat) (Bw : Nat → Nat) (k : Nat) (hm : mOk Bw) (hk2 : k < Bw 0) : Met l yX5_of wsX5_of ({ frames := 5, cells := 0, slots := 0, locals := 116 }) (va_Pc [.ref m0, .int (nI k), .int (nI 0)] (rB (dC, dI) vwCl [(m0, .inr (5, [.ref mw, .int (bi im), .ref mt, .int (nI tl), .ref ml, .ref mz, .ref mi, .ref mr, .int (nI at0), .int (nI st0), .int (nI nu), .int (nI rm), .int (nI rh), .ref md, .ref mh])), (mw, .inl (cI, 480, .inl (nA Bw)))] (tyz cI cJ cS))) (QcRead (nI (kdB Bw k))) 0 0 (fun _ => False) := by
  refine Met.ofW (cc := cX5_of) (maxL := 3) (ret := (some .int)) (by decide) rfl ?_
  intro p e s m args below meth c s₁ B hml hv
  obtain ⟨rfl, hP, hKK⟩ := hv
  have hK := hKK.1
  have hx := B.exec
  have hb := B.bytes
  have hr := B.returns
  have hts := atoms_spec (ws := wsX5_of) B.pre
  have hown : s.vm.findClass RX5 = some m.cls := findClass_of_methodNamed B.named
  have hlocks := B.notSynchronized
  have hiX5 : ∀ w ∈ wsX50, w ∈ wsX5_of := by decide +kernel
  have hl := lv_entry ([.ref m0, .int (nI k), .int (nI 0)]) (n := 3) (Nat.le_of_ble_eq_true rfl)
  rw [lg_entry_eq]
  generalize (lg_sl ([.ref m0, .int (nI k), .int (nI 0)]) ++ List.replicate (3 - (lg_sl ([.ref m0, .int (nI k), .int (nI 0)])).length) Slot.unset).toArray = ls at hl ⊢
  have hl : lv_has ls 3 [(0, .ref m0), (1, .int (nI k)), (2, .int (nI 0))] := hl
  have hn6 := hm.n
  have hm1 := hm.2.1
  refine lv_aload_n hx hb dX5_of_0 rfl (lv_at hl 0 rfl) ?_
  refine lv_iload_n hx hb dX5_of_1 rfl (lv_at hl 1 rfl) ?_
  refine rr_callR (va_runV (As := [.int (nI k)]) (rest := []) ⟨hx, hb, hml, hown, hts⟩ (c_X5_isWheel l dC dI cI cJ cS m0 mw mt ml mz mi mr md mh im tl at0 st0 nu rm rh Bw (nI k) (by first | assumption | omega)) (cwV 1 hts gX5_of_X5_isWheel rfl rfl rfl (by decide +kernel) ⟨Nat.le_of_ble_eq_true rfl, Nat.le_of_ble_eq_true rfl⟩) (rr_preV hKK hP rfl rfl) rfl rfl hl.1 rfl (lv_room (Nat.le_of_ble_eq_true rfl)) dX5_of_2 ⟨Nat.zero_le _, Nat.zero_le _⟩) ?_
  refine rr_top (y := bi true) (congrArg bi (inb_lt (by omega) (by omega))) ?_
  refine rb_if_ne (tgt := 10) hx hb dX5_of_5 (by decide) (fun c5 => ?_) (fun c5 => ?_)
  rotate_left
  · exact absurd c5 (by decide)
  refine lv_iload_n hx hb dX5_of_10 rfl (lv_at hl 2 rfl) ?_
  by_cases w11_0 : 0 = 0
  · refine rn_top w11_0 ?_
    refine lv_tableIn (off := 29) (tgt := 40) hx hb dX5_of_11 (by decide) (by decide) (by decide) (by decide) ?_
    refine lv_aload_n hx hb dX5_of_40 rfl (lv_at hl 0 rfl) ?_
    refine va_get (D := (dC, dI)) (ci := 5) (v := .ref mw) (C := RX5) (T := TX5) (N := 15) hx hb hts hiX5 hown hK hP 0 rfl rfl 0 (by decide) (hts (.fieldLink RX5 7 "RestRegistersModel" "w" "[I") (by decide +kernel)) (fun _ h9 => h9) rfl dX5_of_41 ?_
    refine lv_iconst (v := (nI 2)) hx hb dX5_of_44 (by decide) ?_
    refine lv_iload_n hx hb dX5_of_45 rfl (lv_at hl 1 rfl) ?_
    refine rn_iadd hx hb dX5_of_46 ?_
    refine rn_iald hx hb hK hP 1 0 rfl rfl (i := 2 + k) (by omega) (by decide) (v := (nI (kdB Bw k))) rfl dX5_of_47 ?_
    have hv47 := hm.kd k (by omega)
    exact rr_iret hx hb hr hlocks dX5_of_48 (rfl)
  by_cases w11_1 : 0 = 1
  · refine rn_top w11_1 ?_
    refine lv_tableIn (off := 38) (tgt := 49) hx hb dX5_of_11 (by decide) (by decide) (by decide) (by decide) ?_
    exact absurd w11_1 (by decide)
  by_cases w11_2 : 0 = 2
  · refine rn_top w11_2 ?_
    refine lv_tableIn (off := 48) (tgt := 59) hx hb dX5_of_11 (by decide) (by decide) (by decide) (by decide) ?_
    exact absurd w11_2 (by decide)
  by_cases w11_3 : 0 = 3
  · refine rn_top w11_3 ?_
    refine lv_tableIn (off := 64) (tgt := 75) hx hb dX5_of_11 (by decide) (by decide) (by decide) (by decide) ?_
    exact absurd w11_3 (by decide)
  refine lv_tableOut (tgt := 81) hx hb dX5_of_11 (sw_outN 0 3 (by omega) (by omega)) (by decide) ?_
  exact absurd rfl w11_0
set_option maxHeartbeats 4000000 in
set_option maxRecDepth 100000 in
theorem c_X5_of_1 (l : Launch) (dC : Nat → ClassId) (dI : Nat → Nat → Nat) (cI cJ cS : ClassId) (m0 mw mt ml mz mi mr md mh : Nat) (im : Bool) (tl at0 st0 nu rm rh : Nat) (Bw : Nat → Nat) (k : Nat) (hm : mOk Bw) (hk2 : k < Bw 0) : Met l yX5_of wsX5_of ({ frames := 5, cells := 0, slots := 0, locals := 116 }) (va_Pc [.ref m0, .int (nI k), .int (nI 1)] (rB (dC, dI) vwCl [(m0, .inr (5, [.ref mw, .int (bi im), .ref mt, .int (nI tl), .ref ml, .ref mz, .ref mi, .ref mr, .int (nI at0), .int (nI st0), .int (nI nu), .int (nI rm), .int (nI rh), .ref md, .ref mh])), (mw, .inl (cI, 480, .inl (nA Bw)))] (tyz cI cJ cS))) (QcRead (nI (wdB Bw k))) 0 0 (fun _ => False) := by
  refine Met.ofW (cc := cX5_of) (maxL := 3) (ret := (some .int)) (by decide) rfl ?_
  intro p e s m args below meth c s₁ B hml hv
  obtain ⟨rfl, hP, hKK⟩ := hv
  have hK := hKK.1
  have hx := B.exec
  have hb := B.bytes
  have hr := B.returns
  have hts := atoms_spec (ws := wsX5_of) B.pre
  have hown : s.vm.findClass RX5 = some m.cls := findClass_of_methodNamed B.named
  have hlocks := B.notSynchronized
  have hiX5 : ∀ w ∈ wsX50, w ∈ wsX5_of := by decide +kernel
  have hl := lv_entry ([.ref m0, .int (nI k), .int (nI 1)]) (n := 3) (Nat.le_of_ble_eq_true rfl)
  rw [lg_entry_eq]
  generalize (lg_sl ([.ref m0, .int (nI k), .int (nI 1)]) ++ List.replicate (3 - (lg_sl ([.ref m0, .int (nI k), .int (nI 1)])).length) Slot.unset).toArray = ls at hl ⊢
  have hl : lv_has ls 3 [(0, .ref m0), (1, .int (nI k)), (2, .int (nI 1))] := hl
  have hn6 := hm.n
  have hm1 := hm.2.1
  refine lv_aload_n hx hb dX5_of_0 rfl (lv_at hl 0 rfl) ?_
  refine lv_iload_n hx hb dX5_of_1 rfl (lv_at hl 1 rfl) ?_
  refine rr_callR (va_runV (As := [.int (nI k)]) (rest := []) ⟨hx, hb, hml, hown, hts⟩ (c_X5_isWheel l dC dI cI cJ cS m0 mw mt ml mz mi mr md mh im tl at0 st0 nu rm rh Bw (nI k) (by first | assumption | omega)) (cwV 1 hts gX5_of_X5_isWheel rfl rfl rfl (by decide +kernel) ⟨Nat.le_of_ble_eq_true rfl, Nat.le_of_ble_eq_true rfl⟩) (rr_preV hKK hP rfl rfl) rfl rfl hl.1 rfl (lv_room (Nat.le_of_ble_eq_true rfl)) dX5_of_2 ⟨Nat.zero_le _, Nat.zero_le _⟩) ?_
  refine rr_top (y := bi true) (congrArg bi (inb_lt (by omega) (by omega))) ?_
  refine rb_if_ne (tgt := 10) hx hb dX5_of_5 (by decide) (fun c5 => ?_) (fun c5 => ?_)
  rotate_left
  · exact absurd c5 (by decide)
  refine lv_iload_n hx hb dX5_of_10 rfl (lv_at hl 2 rfl) ?_
  by_cases w11_0 : 1 = 0
  · refine rn_top w11_0 ?_
    refine lv_tableIn (off := 29) (tgt := 40) hx hb dX5_of_11 (by decide) (by decide) (by decide) (by decide) ?_
    exact absurd w11_0 (by decide)
  by_cases w11_1 : 1 = 1
  · refine rn_top w11_1 ?_
    refine lv_tableIn (off := 38) (tgt := 49) hx hb dX5_of_11 (by decide) (by decide) (by decide) (by decide) ?_
    refine lv_aload_n hx hb dX5_of_49 rfl (lv_at hl 0 rfl) ?_
    refine va_get (D := (dC, dI)) (ci := 5) (v := .ref mw) (C := RX5) (T := TX5) (N := 15) hx hb hts hiX5 hown hK hP 0 rfl rfl 0 (by decide) (hts (.fieldLink RX5 7 "RestRegistersModel" "w" "[I") (by decide +kernel)) (fun _ h9 => h9) rfl dX5_of_50 ?_
    refine lv_bipush (v := (nI 8)) hx hb dX5_of_53 (by decide) ?_
    refine lv_iload_n hx hb dX5_of_55 rfl (lv_at hl 1 rfl) ?_
    refine rn_iadd hx hb dX5_of_56 ?_
    refine rn_iald hx hb hK hP 1 0 rfl rfl (i := 8 + k) (by omega) (by decide) (v := (nI (wdB Bw k))) rfl dX5_of_57 ?_
    have hv57 := hm.wd k (by omega)
    exact rr_iret hx hb hr hlocks dX5_of_58 (rfl)
  by_cases w11_2 : 1 = 2
  · refine rn_top w11_2 ?_
    refine lv_tableIn (off := 48) (tgt := 59) hx hb dX5_of_11 (by decide) (by decide) (by decide) (by decide) ?_
    exact absurd w11_2 (by decide)
  by_cases w11_3 : 1 = 3
  · refine rn_top w11_3 ?_
    refine lv_tableIn (off := 64) (tgt := 75) hx hb dX5_of_11 (by decide) (by decide) (by decide) (by decide) ?_
    exact absurd w11_3 (by decide)
  refine lv_tableOut (tgt := 81) hx hb dX5_of_11 (sw_outN 0 3 (by omega) (by omega)) (by decide) ?_
  exact absurd rfl w11_1
set_option maxHeartbeats 4000000 in
set_option maxRecDepth 100000 in
theorem c_X5_of_2 (l : Launch) (dC : Nat → ClassId) (dI : Nat → Nat → Nat) (cI cJ cS : ClassId) (m0 mw mt ml mz mi mr md mh : Nat) (im : Bool) (tl at0 st0 nu rm rh : Nat) (Bw : Nat → Nat) (k : Nat) (hm : mOk Bw) (hk2 : k < Bw 0) : Met l yX5_of wsX5_of ({ frames := 5, cells := 0, slots := 0, locals := 116 }) (va_Pc [.ref m0, .int (nI k), .int (nI 2)] (rB (dC, dI) vwCl [(m0, .inr (5, [.ref mw, .int (bi im), .ref mt, .int (nI tl), .ref ml, .ref mz, .ref mi, .ref mr, .int (nI at0), .int (nI st0), .int (nI nu), .int (nI rm), .int (nI rh), .ref md, .ref mh])), (mw, .inl (cI, 480, .inl (nA Bw)))] (tyz cI cJ cS))) (QcRead (nI (if k < Bw 1 then 0 else 1))) 0 0 (fun _ => False) := by
  refine Met.ofW (cc := cX5_of) (maxL := 3) (ret := (some .int)) (by decide) rfl ?_
  intro p e s m args below meth c s₁ B hml hv
  obtain ⟨rfl, hP, hKK⟩ := hv
  have hK := hKK.1
  have hx := B.exec
  have hb := B.bytes
  have hr := B.returns
  have hts := atoms_spec (ws := wsX5_of) B.pre
  have hown : s.vm.findClass RX5 = some m.cls := findClass_of_methodNamed B.named
  have hlocks := B.notSynchronized
  have hiX5 : ∀ w ∈ wsX50, w ∈ wsX5_of := by decide +kernel
  have hl := lv_entry ([.ref m0, .int (nI k), .int (nI 2)]) (n := 3) (Nat.le_of_ble_eq_true rfl)
  rw [lg_entry_eq]
  generalize (lg_sl ([.ref m0, .int (nI k), .int (nI 2)]) ++ List.replicate (3 - (lg_sl ([.ref m0, .int (nI k), .int (nI 2)])).length) Slot.unset).toArray = ls at hl ⊢
  have hl : lv_has ls 3 [(0, .ref m0), (1, .int (nI k)), (2, .int (nI 2))] := hl
  have hn6 := hm.n
  have hm1 := hm.2.1
  refine lv_aload_n hx hb dX5_of_0 rfl (lv_at hl 0 rfl) ?_
  refine lv_iload_n hx hb dX5_of_1 rfl (lv_at hl 1 rfl) ?_
  refine rr_callR (va_runV (As := [.int (nI k)]) (rest := []) ⟨hx, hb, hml, hown, hts⟩ (c_X5_isWheel l dC dI cI cJ cS m0 mw mt ml mz mi mr md mh im tl at0 st0 nu rm rh Bw (nI k) (by first | assumption | omega)) (cwV 1 hts gX5_of_X5_isWheel rfl rfl rfl (by decide +kernel) ⟨Nat.le_of_ble_eq_true rfl, Nat.le_of_ble_eq_true rfl⟩) (rr_preV hKK hP rfl rfl) rfl rfl hl.1 rfl (lv_room (Nat.le_of_ble_eq_true rfl)) dX5_of_2 ⟨Nat.zero_le _, Nat.zero_le _⟩) ?_
  refine rr_top (y := bi true) (congrArg bi (inb_lt (by omega) (by omega))) ?_
  refine rb_if_ne (tgt := 10) hx hb dX5_of_5 (by decide) (fun c5 => ?_) (fun c5 => ?_)
  rotate_left
  · exact absurd c5 (by decide)
  refine lv_iload_n hx hb dX5_of_10 rfl (lv_at hl 2 rfl) ?_
  by_cases w11_0 : 2 = 0
  · refine rn_top w11_0 ?_
    refine lv_tableIn (off := 29) (tgt := 40) hx hb dX5_of_11 (by decide) (by decide) (by decide) (by decide) ?_
    exact absurd w11_0 (by decide)
  by_cases w11_1 : 2 = 1
  · refine rn_top w11_1 ?_
    refine lv_tableIn (off := 38) (tgt := 49) hx hb dX5_of_11 (by decide) (by decide) (by decide) (by decide) ?_
    exact absurd w11_1 (by decide)
  by_cases w11_2 : 2 = 2
  · refine rn_top w11_2 ?_
    refine lv_tableIn (off := 48) (tgt := 59) hx hb dX5_of_11 (by decide) (by decide) (by decide) (by decide) ?_
    refine lv_iload_n hx hb dX5_of_59 rfl (lv_at hl 1 rfl) ?_
    refine lv_aload_n hx hb dX5_of_60 rfl (lv_at hl 0 rfl) ?_
    refine va_get (D := (dC, dI)) (ci := 5) (v := .ref mw) (C := RX5) (T := TX5) (N := 15) hx hb hts hiX5 hown hK hP 0 rfl rfl 0 (by decide) (hts (.fieldLink RX5 7 "RestRegistersModel" "w" "[I") (by decide +kernel)) (fun _ h9 => h9) rfl dX5_of_61 ?_
    refine lv_iconst (v := (nI 1)) hx hb dX5_of_64 (by decide) ?_
    refine rn_iald hx hb hK hP 1 0 rfl rfl (i := 1) (by omega) (by decide) (v := (nI (Bw 1))) rfl dX5_of_65 ?_
    refine rn_icmp_ge (tgt := 73) hx hb dX5_of_66 (by decide) (by omega) (by omega) (fun c66 => ?_) (fun c66 => ?_)
    · skip
      refine lv_iconst (v := (nI 1)) hx hb dX5_of_73 (by decide) ?_
      exact rr_iret hx hb hr hlocks dX5_of_74 (by first | (rw [if_pos c66]; done) | (rw [if_neg (Nat.not_lt.mpr c66)]))
    refine lv_iconst (v := (nI 0)) hx hb dX5_of_69 (by decide) ?_
    refine lv_goto (tgt := 74) hx hb dX5_of_70 (by decide) ?_
    exact rr_iret hx hb hr hlocks dX5_of_74 (by first | (rw [if_pos c66]; done) | (rw [if_neg (Nat.not_lt.mpr c66)]))
  by_cases w11_3 : 2 = 3
  · refine rn_top w11_3 ?_
    refine lv_tableIn (off := 64) (tgt := 75) hx hb dX5_of_11 (by decide) (by decide) (by decide) (by decide) ?_
    exact absurd w11_3 (by decide)
  refine lv_tableOut (tgt := 81) hx hb dX5_of_11 (sw_outN 0 3 (by omega) (by omega)) (by decide) ?_
  exact absurd rfl w11_2
set_option maxHeartbeats 4000000 in
set_option maxRecDepth 100000 in
theorem c_X5_of_3 (l : Launch) (dC : Nat → ClassId) (dI : Nat → Nat → Nat) (cI cJ cS : ClassId) (m0 mw mt ml mz mi mr md mh : Nat) (im : Bool) (tl at0 st0 nu rm rh : Nat) (Bw : Nat → Nat) (k : Nat) (hm : mOk Bw) (hk2 : k < Bw 0) : Met l yX5_of wsX5_of ({ frames := 5, cells := 0, slots := 0, locals := 116 }) (va_Pc [.ref m0, .int (nI k), .int (nI 3)] (rB (dC, dI) vwCl [(m0, .inr (5, [.ref mw, .int (bi im), .ref mt, .int (nI tl), .ref ml, .ref mz, .ref mi, .ref mr, .int (nI at0), .int (nI st0), .int (nI nu), .int (nI rm), .int (nI rh), .ref md, .ref mh])), (mw, .inl (cI, 480, .inl (nA Bw)))] (tyz cI cJ cS))) (QcRead (nI (wrS (kdB Bw k) (wdB Bw k) (wdB Bw k)))) 0 0 (fun _ => False) := by
  refine Met.ofW (cc := cX5_of) (maxL := 3) (ret := (some .int)) (by decide) rfl ?_
  intro p e s m args below meth c s₁ B hml hv
  obtain ⟨rfl, hP, hKK⟩ := hv
  have hK := hKK.1
  have hx := B.exec
  have hb := B.bytes
  have hr := B.returns
  have hts := atoms_spec (ws := wsX5_of) B.pre
  have hown : s.vm.findClass RX5 = some m.cls := findClass_of_methodNamed B.named
  have hlocks := B.notSynchronized
  have hiX5 : ∀ w ∈ wsX50, w ∈ wsX5_of := by decide +kernel
  have hl := lv_entry ([.ref m0, .int (nI k), .int (nI 3)]) (n := 3) (Nat.le_of_ble_eq_true rfl)
  rw [lg_entry_eq]
  generalize (lg_sl ([.ref m0, .int (nI k), .int (nI 3)]) ++ List.replicate (3 - (lg_sl ([.ref m0, .int (nI k), .int (nI 3)])).length) Slot.unset).toArray = ls at hl ⊢
  have hl : lv_has ls 3 [(0, .ref m0), (1, .int (nI k)), (2, .int (nI 3))] := hl
  have hn6 := hm.n
  have hm1 := hm.2.1
  refine lv_aload_n hx hb dX5_of_0 rfl (lv_at hl 0 rfl) ?_
  refine lv_iload_n hx hb dX5_of_1 rfl (lv_at hl 1 rfl) ?_
  refine rr_callR (va_runV (As := [.int (nI k)]) (rest := []) ⟨hx, hb, hml, hown, hts⟩ (c_X5_isWheel l dC dI cI cJ cS m0 mw mt ml mz mi mr md mh im tl at0 st0 nu rm rh Bw (nI k) (by first | assumption | omega)) (cwV 1 hts gX5_of_X5_isWheel rfl rfl rfl (by decide +kernel) ⟨Nat.le_of_ble_eq_true rfl, Nat.le_of_ble_eq_true rfl⟩) (rr_preV hKK hP rfl rfl) rfl rfl hl.1 rfl (lv_room (Nat.le_of_ble_eq_true rfl)) dX5_of_2 ⟨Nat.zero_le _, Nat.zero_le _⟩) ?_
  refine rr_top (y := bi true) (congrArg bi (inb_lt (by omega) (by omega))) ?_
  refine rb_if_ne (tgt := 10) hx hb dX5_of_5 (by decide) (fun c5 => ?_) (fun c5 => ?_)
  rotate_left
  · exact absurd c5 (by decide)
  refine lv_iload_n hx hb dX5_of_10 rfl (lv_at hl 2 rfl) ?_
  by_cases w11_0 : 3 = 0
  · refine rn_top w11_0 ?_
    refine lv_tableIn (off := 29) (tgt := 40) hx hb dX5_of_11 (by decide) (by decide) (by decide) (by decide) ?_
    exact absurd w11_0 (by decide)
  by_cases w11_1 : 3 = 1
  · refine rn_top w11_1 ?_
    refine lv_tableIn (off := 38) (tgt := 49) hx hb dX5_of_11 (by decide) (by decide) (by decide) (by decide) ?_
    exact absurd w11_1 (by decide)
  by_cases w11_2 : 3 = 2
  · refine rn_top w11_2 ?_
    refine lv_tableIn (off := 48) (tgt := 59) hx hb dX5_of_11 (by decide) (by decide) (by decide) (by decide) ?_
    exact absurd w11_2 (by decide)
  by_cases w11_3 : 3 = 3
  · refine rn_top w11_3 ?_
    refine lv_tableIn (off := 64) (tgt := 75) hx hb dX5_of_11 (by decide) (by decide) (by decide) (by decide) ?_
    refine lv_aload_n hx hb dX5_of_75 rfl (lv_at hl 0 rfl) ?_
    refine lv_iload_n hx hb dX5_of_76 rfl (lv_at hl 1 rfl) ?_
    refine rr_callR (va_runV (As := [.int (nI k)]) (rest := []) ⟨hx, hb, hml, hown, hts⟩ (c_X5_wrongOf l dC dI cI cJ cS m0 mw mt ml mz mi mr md mh im tl at0 st0 nu rm rh Bw k (by first | assumption | omega) (by first | assumption | omega)) (cwV 1 hts gX5_of_X5_wrongOf rfl rfl rfl (by decide +kernel) ⟨Nat.le_of_ble_eq_true rfl, Nat.le_of_ble_eq_true rfl⟩) (rr_preV hKK hP rfl rfl) rfl rfl hl.1 rfl (lv_room (Nat.le_of_ble_eq_true rfl)) dX5_of_77 ⟨Nat.zero_le _, Nat.zero_le _⟩) ?_
    exact rr_iret hx hb hr hlocks dX5_of_80 (rfl)
  refine lv_tableOut (tgt := 81) hx hb dX5_of_11 (sw_outN 0 3 (by omega) (by omega)) (by decide) ?_
  exact absurd rfl w11_3
set_option maxHeartbeats 4000000 in
set_option maxRecDepth 100000 in
theorem c_X5_of_b (l : Launch) (dC : Nat → ClassId) (dI : Nat → Nat → Nat) (cI cJ cS : ClassId) (m0 mw mt ml mz mi mr md mh : Nat) (im : Bool) (tl at0 st0 nu rm rh : Nat) (Bw : Nat → Nat) (x y : Int32) (hm : mOk Bw) (hbad : (inb x (Bw 0) && inb y 4) = false) : Met l yX5_of wsX5_of ({ frames := 5, cells := 0, slots := 0, locals := 116 }) (va_Pc [.ref m0, .int x, .int y] (rB (dC, dI) vwCl [(m0, .inr (5, [.ref mw, .int (bi im), .ref mt, .int (nI tl), .ref ml, .ref mz, .ref mi, .ref mr, .int (nI at0), .int (nI st0), .int (nI nu), .int (nI rm), .int (nI rh), .ref md, .ref mh])), (mw, .inl (cI, 480, .inl (nA Bw)))] (tyz cI cJ cS))) (QcRead (-1)) 0 0 (fun _ => False) := by
  refine Met.ofW (cc := cX5_of) (maxL := 3) (ret := (some .int)) (by decide) rfl ?_
  intro p e s m args below meth c s₁ B hml hv
  obtain ⟨rfl, hP, hKK⟩ := hv
  have hK := hKK.1
  have hx := B.exec
  have hb := B.bytes
  have hr := B.returns
  have hts := atoms_spec (ws := wsX5_of) B.pre
  have hown : s.vm.findClass RX5 = some m.cls := findClass_of_methodNamed B.named
  have hlocks := B.notSynchronized
  have hiX5 : ∀ w ∈ wsX50, w ∈ wsX5_of := by decide +kernel
  have hl := lv_entry ([.ref m0, .int x, .int y]) (n := 3) (Nat.le_of_ble_eq_true rfl)
  rw [lg_entry_eq]
  generalize (lg_sl ([.ref m0, .int x, .int y]) ++ List.replicate (3 - (lg_sl ([.ref m0, .int x, .int y])).length) Slot.unset).toArray = ls at hl ⊢
  have hl : lv_has ls 3 [(0, .ref m0), (1, .int x), (2, .int y)] := hl
  have hn6 := hm.n
  refine lv_aload_n hx hb dX5_of_0 rfl (lv_at hl 0 rfl) ?_
  refine lv_iload_n hx hb dX5_of_1 rfl (lv_at hl 1 rfl) ?_
  refine rr_callR (va_runV (As := [.int x]) (rest := []) ⟨hx, hb, hml, hown, hts⟩ (c_X5_isWheel l dC dI cI cJ cS m0 mw mt ml mz mi mr md mh im tl at0 st0 nu rm rh Bw x (by first | assumption | omega)) (cwV 1 hts gX5_of_X5_isWheel rfl rfl rfl (by decide +kernel) ⟨Nat.le_of_ble_eq_true rfl, Nat.le_of_ble_eq_true rfl⟩) (rr_preV hKK hP rfl rfl) rfl rfl hl.1 rfl (lv_room (Nat.le_of_ble_eq_true rfl)) dX5_of_2 ⟨Nat.zero_le _, Nat.zero_le _⟩) ?_
  refine rb_if_ne (tgt := 10) hx hb dX5_of_5 (by decide) (fun c5 => ?_) (fun c5 => ?_)
  · skip
    refine lv_iload_n hx hb dX5_of_10 rfl (lv_at hl 2 rfl) ?_
    by_cases w11_0 : y = nI 0
    · refine rr_top w11_0 ?_
      refine lv_tableIn (off := 29) (tgt := 40) hx hb dX5_of_11 (by decide) (by decide) (by decide) (by decide) ?_
      exact absurd hbad (by rw [c5, w11_0]; decide)
    by_cases w11_1 : y = nI 1
    · refine rr_top w11_1 ?_
      refine lv_tableIn (off := 38) (tgt := 49) hx hb dX5_of_11 (by decide) (by decide) (by decide) (by decide) ?_
      exact absurd hbad (by rw [c5, w11_1]; decide)
    by_cases w11_2 : y = nI 2
    · refine rr_top w11_2 ?_
      refine lv_tableIn (off := 48) (tgt := 59) hx hb dX5_of_11 (by decide) (by decide) (by decide) (by decide) ?_
      exact absurd hbad (by rw [c5, w11_2]; decide)
    by_cases w11_3 : y = nI 3
    · refine rr_top w11_3 ?_
      refine lv_tableIn (off := 64) (tgt := 75) hx hb dX5_of_11 (by decide) (by decide) (by decide) (by decide) ?_
      exact absurd hbad (by rw [c5, w11_3]; decide)
    refine lv_tableOut (tgt := 81) hx hb dX5_of_11 (sw_out 0 3 (fun k h1 h2 => by rcases (show k = 0 ∨ k = 1 ∨ k = 2 ∨ k = 3 by omega) with rfl | rfl | rfl | rfl <;> assumption)) (by decide) ?_
    refine lv_iconst (v := (-1)) hx hb dX5_of_81 (by decide) ?_
    exact rr_iret hx hb hr hlocks dX5_of_82 (rfl)
  refine lv_iconst (v := (-1)) hx hb dX5_of_8 (by decide) ?_
  exact rr_iret hx hb hr hlocks dX5_of_9 (rfl)
set_option maxHeartbeats 4000000 in
set_option maxRecDepth 100000 in
theorem c_X5_rest_g (l : Launch) (dC : Nat → ClassId) (dI : Nat → Nat → Nat) (cI cJ cS : ClassId) (m0 mw mt ml mz mi mr md mh : Nat) (im : Bool) (tl at0 st0 nu rm rh : Nat) (Bw : Nat → Nat) (r k : Nat) (hm : mOk Bw) (hr4 : r < 4) (hk2 : k < Bw 0) : Met l yX5_rest wsX5_rest ({ frames := 2, cells := 0, slots := 0, locals := 46 }) (va_Pc [.ref m0, .int (nI r), .int (nI k)] (rB (dC, dI) vwCl [(m0, .inr (5, [.ref mw, .int (bi im), .ref mt, .int (nI tl), .ref ml, .ref mz, .ref mi, .ref mr, .int (nI at0), .int (nI st0), .int (nI nu), .int (nI rm), .int (nI rh), .ref md, .ref mh])), (mw, .inl (cI, 480, .inl (nA Bw)))] (tyz cI cJ cS))) (QcRead (nI (rsB Bw (r * 6 + k)))) 0 0 (fun _ => False) := by
  refine Met.ofW (cc := cX5_rest) (maxL := 3) (ret := (some .int)) (by decide) rfl ?_
  intro p e s m args below meth c s₁ B hml hv
  obtain ⟨rfl, hP, hKK⟩ := hv
  have hK := hKK.1
  have hx := B.exec
  have hb := B.bytes
  have hr := B.returns
  have hts := atoms_spec (ws := wsX5_rest) B.pre
  have hown : s.vm.findClass RX5 = some m.cls := findClass_of_methodNamed B.named
  have hlocks := B.notSynchronized
  have hiX5 : ∀ w ∈ wsX50, w ∈ wsX5_rest := by decide +kernel
  have hl := lv_entry ([.ref m0, .int (nI r), .int (nI k)]) (n := 3) (Nat.le_of_ble_eq_true rfl)
  rw [lg_entry_eq]
  generalize (lg_sl ([.ref m0, .int (nI r), .int (nI k)]) ++ List.replicate (3 - (lg_sl ([.ref m0, .int (nI r), .int (nI k)])).length) Slot.unset).toArray = ls at hl ⊢
  have hl : lv_has ls 3 [(0, .ref m0), (1, .int (nI r)), (2, .int (nI k))] := hl
  have hn6 := hm.n
  refine lv_iload_n hx hb dX5_rest_0 rfl (lv_at hl 1 rfl) ?_
  refine rr_callR (va_runS (As := [.int (nI r)]) (rest := []) ⟨hx, hb, hml, hown, hts⟩ (c_X5_isRegister l (nI r) ) (va_cwS 1 hts gX5_rest_X5_isRegister rfl rfl rfl (by decide +kernel) ⟨Nat.le_of_ble_eq_true rfl, Nat.le_of_ble_eq_true rfl⟩) rr_preT rfl rfl hl.1 rfl (lv_room (Nat.le_of_ble_eq_true rfl)) dX5_rest_1 ⟨Nat.zero_le _, Nat.zero_le _⟩) ?_
  refine rr_top (y := bi true) (congrArg bi (inb_lt (by omega) (by omega))) ?_
  refine rb_if_eq (tgt := 32) hx hb dX5_rest_4 (by decide) (fun c4 => ?_) (fun c4 => ?_)
  · exact absurd c4 (by decide)
  refine lv_aload_n hx hb dX5_rest_7 rfl (lv_at hl 0 rfl) ?_
  refine lv_iload_n hx hb dX5_rest_8 rfl (lv_at hl 2 rfl) ?_
  refine rr_callR (va_runV (As := [.int (nI k)]) (rest := []) ⟨hx, hb, hml, hown, hts⟩ (c_X5_isWheel l dC dI cI cJ cS m0 mw mt ml mz mi mr md mh im tl at0 st0 nu rm rh Bw (nI k) (by first | assumption | omega)) (cwV 1 hts gX5_rest_X5_isWheel rfl rfl rfl (by decide +kernel) ⟨Nat.le_of_ble_eq_true rfl, Nat.le_of_ble_eq_true rfl⟩) (rr_preV hKK hP rfl rfl) rfl rfl hl.1 rfl (lv_room (Nat.le_of_ble_eq_true rfl)) dX5_rest_9 ⟨Nat.zero_le _, Nat.zero_le _⟩) ?_
  refine rr_top (y := bi true) (congrArg bi (inb_lt (by omega) (by omega))) ?_
  refine rb_if_eq (tgt := 32) hx hb dX5_rest_12 (by decide) (fun c12 => ?_) (fun c12 => ?_)
  · exact absurd c12 (by decide)
  refine lv_aload_n hx hb dX5_rest_15 rfl (lv_at hl 0 rfl) ?_
  refine va_get (D := (dC, dI)) (ci := 5) (v := .ref mw) (C := RX5) (T := TX5) (N := 15) hx hb hts hiX5 hown hK hP 0 rfl rfl 0 (by decide) (hts (.fieldLink RX5 7 "RestRegistersModel" "w" "[I") (by decide +kernel)) (fun _ h9 => h9) rfl dX5_rest_16 ?_
  refine lv_bipush (v := (nI 15)) hx hb dX5_rest_19 (by decide) ?_
  refine lv_bipush (v := (nI 6)) hx hb dX5_rest_21 (by decide) ?_
  refine lv_iload_n hx hb dX5_rest_23 rfl (lv_at hl 1 rfl) ?_
  refine rn_imul hx hb dX5_rest_24 ?_
  refine rn_iadd hx hb dX5_rest_25 ?_
  refine lv_iload_n hx hb dX5_rest_26 rfl (lv_at hl 2 rfl) ?_
  refine rn_iadd hx hb dX5_rest_27 ?_
  refine rn_iald hx hb hK hP 1 0 rfl rfl (i := 15 + (6 * r) + k) (by omega) (by decide) (v := (nI (rsB Bw (r * 6 + k)))) (rs_at _ _ _) dX5_rest_28 ?_
  refine lv_goto (tgt := 33) hx hb dX5_rest_29 (by decide) ?_
  exact rr_iret hx hb hr hlocks dX5_rest_33 (rfl)
set_option maxHeartbeats 4000000 in
set_option maxRecDepth 100000 in
theorem c_X5_rest_b (l : Launch) (dC : Nat → ClassId) (dI : Nat → Nat → Nat) (cI cJ cS : ClassId) (m0 mw mt ml mz mi mr md mh : Nat) (im : Bool) (tl at0 st0 nu rm rh : Nat) (Bw : Nat → Nat) (x y : Int32) (hm : mOk Bw) (hbad : (inb x 4 && inb y (Bw 0)) = false) : Met l yX5_rest wsX5_rest ({ frames := 2, cells := 0, slots := 0, locals := 46 }) (va_Pc [.ref m0, .int x, .int y] (rB (dC, dI) vwCl [(m0, .inr (5, [.ref mw, .int (bi im), .ref mt, .int (nI tl), .ref ml, .ref mz, .ref mi, .ref mr, .int (nI at0), .int (nI st0), .int (nI nu), .int (nI rm), .int (nI rh), .ref md, .ref mh])), (mw, .inl (cI, 480, .inl (nA Bw)))] (tyz cI cJ cS))) (QcRead (-1)) 0 0 (fun _ => False) := by
  refine Met.ofW (cc := cX5_rest) (maxL := 3) (ret := (some .int)) (by decide) rfl ?_
  intro p e s m args below meth c s₁ B hml hv
  obtain ⟨rfl, hP, hKK⟩ := hv
  have hK := hKK.1
  have hx := B.exec
  have hb := B.bytes
  have hr := B.returns
  have hts := atoms_spec (ws := wsX5_rest) B.pre
  have hown : s.vm.findClass RX5 = some m.cls := findClass_of_methodNamed B.named
  have hlocks := B.notSynchronized
  have hiX5 : ∀ w ∈ wsX50, w ∈ wsX5_rest := by decide +kernel
  have hl := lv_entry ([.ref m0, .int x, .int y]) (n := 3) (Nat.le_of_ble_eq_true rfl)
  rw [lg_entry_eq]
  generalize (lg_sl ([.ref m0, .int x, .int y]) ++ List.replicate (3 - (lg_sl ([.ref m0, .int x, .int y])).length) Slot.unset).toArray = ls at hl ⊢
  have hl : lv_has ls 3 [(0, .ref m0), (1, .int x), (2, .int y)] := hl
  have hn6 := hm.n
  refine lv_iload_n hx hb dX5_rest_0 rfl (lv_at hl 1 rfl) ?_
  refine rr_callR (va_runS (As := [.int x]) (rest := []) ⟨hx, hb, hml, hown, hts⟩ (c_X5_isRegister l x ) (va_cwS 1 hts gX5_rest_X5_isRegister rfl rfl rfl (by decide +kernel) ⟨Nat.le_of_ble_eq_true rfl, Nat.le_of_ble_eq_true rfl⟩) rr_preT rfl rfl hl.1 rfl (lv_room (Nat.le_of_ble_eq_true rfl)) dX5_rest_1 ⟨Nat.zero_le _, Nat.zero_le _⟩) ?_
  refine rb_if_eq (tgt := 32) hx hb dX5_rest_4 (by decide) (fun c4 => ?_) (fun c4 => ?_)
  · skip
    refine lv_iconst (v := (-1)) hx hb dX5_rest_32 (by decide) ?_
    exact rr_iret hx hb hr hlocks dX5_rest_33 (rfl)
  refine lv_aload_n hx hb dX5_rest_7 rfl (lv_at hl 0 rfl) ?_
  refine lv_iload_n hx hb dX5_rest_8 rfl (lv_at hl 2 rfl) ?_
  refine rr_callR (va_runV (As := [.int y]) (rest := []) ⟨hx, hb, hml, hown, hts⟩ (c_X5_isWheel l dC dI cI cJ cS m0 mw mt ml mz mi mr md mh im tl at0 st0 nu rm rh Bw y (by first | assumption | omega)) (cwV 1 hts gX5_rest_X5_isWheel rfl rfl rfl (by decide +kernel) ⟨Nat.le_of_ble_eq_true rfl, Nat.le_of_ble_eq_true rfl⟩) (rr_preV hKK hP rfl rfl) rfl rfl hl.1 rfl (lv_room (Nat.le_of_ble_eq_true rfl)) dX5_rest_9 ⟨Nat.zero_le _, Nat.zero_le _⟩) ?_
  refine rb_if_eq (tgt := 32) hx hb dX5_rest_12 (by decide) (fun c12 => ?_) (fun c12 => ?_)
  · skip
    refine lv_iconst (v := (-1)) hx hb dX5_rest_32 (by decide) ?_
    exact rr_iret hx hb hr hlocks dX5_rest_33 (rfl)
  exact absurd hbad (by rw [c4, c12]; decide)
set_option maxHeartbeats 4000000 in
set_option maxRecDepth 100000 in
theorem c_X5_at_0 (l : Launch) (dC : Nat → ClassId) (dI : Nat → Nat → Nat) (cI cJ cS : ClassId) (sz : Nat) (m0 mw mt ml mz mi mr md mh : Nat) (im : Bool) (tl at0 st0 nu rm rh : Nat) (Bw Rs : Nat → Nat) (r : Nat) (hm : mOk Bw) (hr4 : r < 4) : Met l yX5_at wsX5_at ({ frames := 3, cells := 0, slots := 0, locals := 65 }) (va_Pc [.ref m0, .int (nI r), .int (nI 0)] (rW (dC, dI) vwCl [(m0, .inr (5, [.ref mw, .int (bi im), .ref mt, .int (nI tl), .ref ml, .ref mz, .ref mi, .ref mr, .int (nI at0), .int (nI st0), .int (nI nu), .int (nI rm), .int (nI rh), .ref md, .ref mh])), (mw, .inl (cI, 480, .inl (nA Bw))), (mr, .inl (cI, 6, .inl (nA Rs)))] (tyz cI cJ cS) sz)) (qI (nI (VB Bw r)) (dC, dI) vwCl [(m0, .inr (5, [.ref mw, .int (bi im), .ref mt, .int (nI tl), .ref ml, .ref mz, .ref mi, .ref mr, .int (nI at0), .int (nI st0), .int (nI nu), .int (nI rm), .int (nI rh), .ref md, .ref mh])), (mw, .inl (cI, 480, .inl (nA Bw))), (mr, .inl (cI, 6, .inl (nA (lkN Bw r 6 Rs))))] (va_A [(m0, .inr (5, [.ref mw, .int (bi im), .ref mt, .int (nI tl), .ref ml, .ref mz, .ref mi, .ref mr, .int (nI at0), .int (nI st0), .int (nI nu), .int (nI rm), .int (nI rh), .ref md, .ref mh])), (mw, .inl (cI, 480, .inl (nA Bw))), (mr, .inl (cI, 6, .inl (nA Rs)))] sz)) 0 0 (va_A [(m0, .inr (5, [.ref mw, .int (bi im), .ref mt, .int (nI tl), .ref ml, .ref mz, .ref mi, .ref mr, .int (nI at0), .int (nI st0), .int (nI nu), .int (nI rm), .int (nI rh), .ref md, .ref mh])), (mw, .inl (cI, 480, .inl (nA Bw))), (mr, .inl (cI, 6, .inl (nA Rs)))] sz) := by
  refine Met.ofW (cc := cX5_at) (maxL := 3) (ret := (some .int)) (by decide) rfl ?_
  intro p e s m args below meth c s₁ B hml hv
  obtain ⟨rfl, hsz, hP, hKK, hD0⟩ := hv
  have hK := hKK.1
  have hx := B.exec
  have hb := B.bytes
  have hr := B.returns
  have hts := atoms_spec (ws := wsX5_at) B.pre
  have hown : s.vm.findClass RX5 = some m.cls := findClass_of_methodNamed B.named
  have hlocks := B.notSynchronized
  subst hsz
  have hD := hD0.self (sz := s.heap.size)
  generalize hAe : va_A [(m0, .inr (5, [.ref mw, .int (bi im), .ref mt, .int (nI tl), .ref ml, .ref mz, .ref mi, .ref mr, .int (nI at0), .int (nI st0), .int (nI nu), .int (nI rm), .int (nI rh), .ref md, .ref mh])), (mw, .inl (cI, 480, .inl (nA Bw))), (mr, .inl (cI, 6, .inl (nA Rs)))] s.heap.size = A at hD ⊢
  have hA : ∀ q : Nat, s.heap.size ≤ q → A q := fun q h => by rw [← hAe]; exact Or.inr h
  have hS : va_S A s.heap s.heap [] := va_S.rf
  have hP : va_P (dC, dI) vwCl [(m0, .inr (5, [.ref mw, .int (bi im), .ref mt, .int (nI tl), .ref ml, .ref mz, .ref mi, .ref mr, .int (nI at0), .int (nI st0), .int (nI nu), .int (nI rm), .int (nI rh), .ref md, .ref mh])), (mw, .inl (cI, 480, .inl (nA Bw))), (mr, .inl (cI, 6, .inl (nA Rs)))] s.heap := hP
  have hl := lv_entry ([.ref m0, .int (nI r), .int (nI 0)]) (n := 3) (Nat.le_of_ble_eq_true rfl)
  rw [lg_entry_eq]
  generalize (lg_sl ([.ref m0, .int (nI r), .int (nI 0)]) ++ List.replicate (3 - (lg_sl ([.ref m0, .int (nI r), .int (nI 0)])).length) Slot.unset).toArray = ls at hl ⊢
  have hl : lv_has ls 3 [(0, .ref m0), (1, .int (nI r)), (2, .int (nI 0))] := hl
  refine lv_iload_n hx hb dX5_at_0 rfl (lv_at hl 1 rfl) ?_
  refine rr_callR (va_runS (As := [.int (nI r)]) (rest := []) ⟨hx, hb, hml, hown, hts⟩ (c_X5_isRegister l (nI r) ) (va_cwS 1 hts gX5_at_X5_isRegister rfl rfl rfl (by decide +kernel) ⟨Nat.le_of_ble_eq_true rfl, Nat.le_of_ble_eq_true rfl⟩) rr_preT rfl rfl hl.1 rfl (lv_room (Nat.le_of_ble_eq_true rfl)) dX5_at_1 ⟨Nat.zero_le _, Nat.zero_le _⟩) ?_
  refine rr_top (y := bi true) (congrArg bi (inb_lt (by omega) (by omega))) ?_
  refine rb_if_eq (tgt := 17) hx hb dX5_at_4 (by decide) (fun c4 => ?_) (fun c4 => ?_)
  · exact absurd c4 (by decide)
  refine lv_iload_n hx hb dX5_at_7 rfl (lv_at hl 2 rfl) ?_
  refine lv_i2l hx hb dX5_at_8 rfl ?_
  refine lv_lconst (v := 0) hx hb dX5_at_9 (by decide) ?_
  refine lv_lconst (v := 1) hx hb dX5_at_10 (by decide) ?_
  refine rr_callR (va_runS (As := [.long ((nI 0).toInt64), .long 0, .long 1]) (rest := []) ⟨hx, hb, hml, hown, hts⟩ (c_X5_in l ((nI 0).toInt64) 0 1 ) (va_cwS 3 hts gX5_at_X5_in rfl rfl rfl (by decide +kernel) ⟨Nat.le_of_ble_eq_true rfl, Nat.le_of_ble_eq_true rfl⟩) rr_preT rfl rfl hl.1 rfl (lv_room (Nat.le_of_ble_eq_true rfl)) dX5_at_11 ⟨Nat.zero_le _, Nat.zero_le _⟩) ?_
  refine rr_top (y := bi (inb (nI 0) 2)) (congrArg bi (inL_lit (by decide))) ?_
  refine rr_top (y := bi true) (congrArg bi (inb_lt (by omega) (by omega))) ?_
  refine rb_if_ne (tgt := 19) hx hb dX5_at_14 (by decide) (fun c14 => ?_) (fun c14 => ?_)
  rotate_left
  · exact absurd c14 (by decide)
  refine lv_iload_n hx hb dX5_at_19 rfl (lv_at hl 2 rfl) ?_
  refine rn_if_ne (tgt := 31) hx hb dX5_at_20 (by decide) (by omega) (fun c20 => ?_) (fun c20 => ?_)
  · skip
    exact absurd rfl c20
  refine lv_aload_n hx hb dX5_at_23 rfl (lv_at hl 0 rfl) ?_
  refine lv_iload_n hx hb dX5_at_24 rfl (lv_at hl 1 rfl) ?_
  refine rw_calli (va_runV (As := [.int (nI r)]) (rest := []) ⟨hx, hb, hml, hown, hts⟩ (c_X5_value l dC dI cI cJ cS _ m0 mw mt ml mz mi mr md mh im tl at0 st0 nu rm rh Bw Rs r (by first | assumption | omega) (by first | assumption | omega)) (cwV 1 hts gX5_at_X5_value rfl rfl rfl (by decide +kernel) ⟨Nat.le_of_ble_eq_true rfl, Nat.le_of_ble_eq_true rfl⟩) (rw_preV hKK hP hD rfl rfl) rfl rfl hl.1 rfl (lv_room (Nat.le_of_ble_eq_true rfl)) dX5_at_25 ⟨Nat.zero_le _, Nat.zero_le _⟩) (wr := []) hP hD hS hA [0, 1, 2] [] rfl rfl (by decide) (by decide) (fun H locs hP hD hS => ?_)
  have hP : va_P (dC, dI) vwCl [(m0, .inr (5, [.ref mw, .int (bi im), .ref mt, .int (nI tl), .ref ml, .ref mz, .ref mi, .ref mr, .int (nI at0), .int (nI st0), .int (nI nu), .int (nI rm), .int (nI rh), .ref md, .ref mh])), (mw, .inl (cI, 480, .inl (nA Bw))), (mr, .inl (cI, 6, .inl (nA (lkN Bw r 6 Rs))))] H := hP.sub [0, 1, 2] rfl
  have hD : va_D A [(m0, .inr (5, [.ref mw, .int (bi im), .ref mt, .int (nI tl), .ref ml, .ref mz, .ref mi, .ref mr, .int (nI at0), .int (nI st0), .int (nI nu), .int (nI rm), .int (nI rh), .ref md, .ref mh])), (mw, .inl (cI, 480, .inl (nA Bw))), (mr, .inl (cI, 6, .inl (nA (lkN Bw r 6 Rs))))] := hD.sub [0, 1, 2] (by decide) rfl
  refine lv_goto (tgt := 44) hx hb dX5_at_28 (by decide) ?_
  exact rr_iretW hx hb hr hlocks dX5_at_44 hP hD hS (rfl)
set_option maxHeartbeats 4000000 in
set_option maxRecDepth 100000 in
theorem c_X5_at_1 (l : Launch) (dC : Nat → ClassId) (dI : Nat → Nat → Nat) (cI cJ cS : ClassId) (sz : Nat) (m0 mw mt ml mz mi mr md mh : Nat) (im : Bool) (tl at0 st0 nu rm rh : Nat) (Bw Rs : Nat → Nat) (r : Nat) (hm : mOk Bw) (hr4 : r < 4) : Met l yX5_at wsX5_at ({ frames := 3, cells := 0, slots := 0, locals := 65 }) (va_Pc [.ref m0, .int (nI r), .int (nI 1)] (rW (dC, dI) vwCl [(m0, .inr (5, [.ref mw, .int (bi im), .ref mt, .int (nI tl), .ref ml, .ref mz, .ref mi, .ref mr, .int (nI at0), .int (nI st0), .int (nI nu), .int (nI rm), .int (nI rh), .ref md, .ref mh])), (mw, .inl (cI, 480, .inl (nA Bw))), (mr, .inl (cI, 6, .inl (nA Rs)))] (tyz cI cJ cS) sz)) (qI (bi (decide (VB Bw r < rgB Bw))) (dC, dI) vwCl [(m0, .inr (5, [.ref mw, .int (bi im), .ref mt, .int (nI tl), .ref ml, .ref mz, .ref mi, .ref mr, .int (nI at0), .int (nI st0), .int (nI nu), .int (nI rm), .int (nI rh), .ref md, .ref mh])), (mw, .inl (cI, 480, .inl (nA Bw))), (mr, .inl (cI, 6, .inl (nA (lkN Bw r 6 Rs))))] (va_A [(m0, .inr (5, [.ref mw, .int (bi im), .ref mt, .int (nI tl), .ref ml, .ref mz, .ref mi, .ref mr, .int (nI at0), .int (nI st0), .int (nI nu), .int (nI rm), .int (nI rh), .ref md, .ref mh])), (mw, .inl (cI, 480, .inl (nA Bw))), (mr, .inl (cI, 6, .inl (nA Rs)))] sz)) 0 0 (va_A [(m0, .inr (5, [.ref mw, .int (bi im), .ref mt, .int (nI tl), .ref ml, .ref mz, .ref mi, .ref mr, .int (nI at0), .int (nI st0), .int (nI nu), .int (nI rm), .int (nI rh), .ref md, .ref mh])), (mw, .inl (cI, 480, .inl (nA Bw))), (mr, .inl (cI, 6, .inl (nA Rs)))] sz) := by
  refine Met.ofW (cc := cX5_at) (maxL := 3) (ret := (some .int)) (by decide) rfl ?_
  intro p e s m args below meth c s₁ B hml hv
  obtain ⟨rfl, hsz, hP, hKK, hD0⟩ := hv
  have hK := hKK.1
  have hx := B.exec
  have hb := B.bytes
  have hr := B.returns
  have hts := atoms_spec (ws := wsX5_at) B.pre
  have hown : s.vm.findClass RX5 = some m.cls := findClass_of_methodNamed B.named
  have hlocks := B.notSynchronized
  subst hsz
  have hD := hD0.self (sz := s.heap.size)
  generalize hAe : va_A [(m0, .inr (5, [.ref mw, .int (bi im), .ref mt, .int (nI tl), .ref ml, .ref mz, .ref mi, .ref mr, .int (nI at0), .int (nI st0), .int (nI nu), .int (nI rm), .int (nI rh), .ref md, .ref mh])), (mw, .inl (cI, 480, .inl (nA Bw))), (mr, .inl (cI, 6, .inl (nA Rs)))] s.heap.size = A at hD ⊢
  have hA : ∀ q : Nat, s.heap.size ≤ q → A q := fun q h => by rw [← hAe]; exact Or.inr h
  have hS : va_S A s.heap s.heap [] := va_S.rf
  have hP : va_P (dC, dI) vwCl [(m0, .inr (5, [.ref mw, .int (bi im), .ref mt, .int (nI tl), .ref ml, .ref mz, .ref mi, .ref mr, .int (nI at0), .int (nI st0), .int (nI nu), .int (nI rm), .int (nI rh), .ref md, .ref mh])), (mw, .inl (cI, 480, .inl (nA Bw))), (mr, .inl (cI, 6, .inl (nA Rs)))] s.heap := hP
  have hl := lv_entry ([.ref m0, .int (nI r), .int (nI 1)]) (n := 3) (Nat.le_of_ble_eq_true rfl)
  rw [lg_entry_eq]
  generalize (lg_sl ([.ref m0, .int (nI r), .int (nI 1)]) ++ List.replicate (3 - (lg_sl ([.ref m0, .int (nI r), .int (nI 1)])).length) Slot.unset).toArray = ls at hl ⊢
  have hl : lv_has ls 3 [(0, .ref m0), (1, .int (nI r)), (2, .int (nI 1))] := hl
  refine lv_iload_n hx hb dX5_at_0 rfl (lv_at hl 1 rfl) ?_
  refine rr_callR (va_runS (As := [.int (nI r)]) (rest := []) ⟨hx, hb, hml, hown, hts⟩ (c_X5_isRegister l (nI r) ) (va_cwS 1 hts gX5_at_X5_isRegister rfl rfl rfl (by decide +kernel) ⟨Nat.le_of_ble_eq_true rfl, Nat.le_of_ble_eq_true rfl⟩) rr_preT rfl rfl hl.1 rfl (lv_room (Nat.le_of_ble_eq_true rfl)) dX5_at_1 ⟨Nat.zero_le _, Nat.zero_le _⟩) ?_
  refine rr_top (y := bi true) (congrArg bi (inb_lt (by omega) (by omega))) ?_
  refine rb_if_eq (tgt := 17) hx hb dX5_at_4 (by decide) (fun c4 => ?_) (fun c4 => ?_)
  · exact absurd c4 (by decide)
  refine lv_iload_n hx hb dX5_at_7 rfl (lv_at hl 2 rfl) ?_
  refine lv_i2l hx hb dX5_at_8 rfl ?_
  refine lv_lconst (v := 0) hx hb dX5_at_9 (by decide) ?_
  refine lv_lconst (v := 1) hx hb dX5_at_10 (by decide) ?_
  refine rr_callR (va_runS (As := [.long ((nI 1).toInt64), .long 0, .long 1]) (rest := []) ⟨hx, hb, hml, hown, hts⟩ (c_X5_in l ((nI 1).toInt64) 0 1 ) (va_cwS 3 hts gX5_at_X5_in rfl rfl rfl (by decide +kernel) ⟨Nat.le_of_ble_eq_true rfl, Nat.le_of_ble_eq_true rfl⟩) rr_preT rfl rfl hl.1 rfl (lv_room (Nat.le_of_ble_eq_true rfl)) dX5_at_11 ⟨Nat.zero_le _, Nat.zero_le _⟩) ?_
  refine rr_top (y := bi (inb (nI 1) 2)) (congrArg bi (inL_lit (by decide))) ?_
  refine rr_top (y := bi true) (congrArg bi (inb_lt (by omega) (by omega))) ?_
  refine rb_if_ne (tgt := 19) hx hb dX5_at_14 (by decide) (fun c14 => ?_) (fun c14 => ?_)
  rotate_left
  · exact absurd c14 (by decide)
  refine lv_iload_n hx hb dX5_at_19 rfl (lv_at hl 2 rfl) ?_
  refine rn_if_ne (tgt := 31) hx hb dX5_at_20 (by decide) (by omega) (fun c20 => ?_) (fun c20 => ?_)
  · skip
    refine lv_aload_n hx hb dX5_at_31 rfl (lv_at hl 0 rfl) ?_
    refine lv_iload_n hx hb dX5_at_32 rfl (lv_at hl 1 rfl) ?_
    refine rw_calli (va_runV (As := [.int (nI r)]) (rest := []) ⟨hx, hb, hml, hown, hts⟩ (c_X5_isLegal l dC dI cI cJ cS _ m0 mw mt ml mz mi mr md mh im tl at0 st0 nu rm rh Bw Rs r (by first | assumption | omega) (by first | assumption | omega)) (cwV 1 hts gX5_at_X5_isLegal rfl rfl rfl (by decide +kernel) ⟨Nat.le_of_ble_eq_true rfl, Nat.le_of_ble_eq_true rfl⟩) (rw_preV hKK hP hD rfl rfl) rfl rfl hl.1 rfl (lv_room (Nat.le_of_ble_eq_true rfl)) dX5_at_33 ⟨Nat.zero_le _, Nat.zero_le _⟩) (wr := []) hP hD hS hA [0, 1, 2] [] rfl rfl (by decide) (by decide) (fun H locs hP hD hS => ?_)
    have hP : va_P (dC, dI) vwCl [(m0, .inr (5, [.ref mw, .int (bi im), .ref mt, .int (nI tl), .ref ml, .ref mz, .ref mi, .ref mr, .int (nI at0), .int (nI st0), .int (nI nu), .int (nI rm), .int (nI rh), .ref md, .ref mh])), (mw, .inl (cI, 480, .inl (nA Bw))), (mr, .inl (cI, 6, .inl (nA (lkN Bw r 6 Rs))))] H := hP.sub [0, 1, 2] rfl
    have hD : va_D A [(m0, .inr (5, [.ref mw, .int (bi im), .ref mt, .int (nI tl), .ref ml, .ref mz, .ref mi, .ref mr, .int (nI at0), .int (nI st0), .int (nI nu), .int (nI rm), .int (nI rh), .ref md, .ref mh])), (mw, .inl (cI, 480, .inl (nA Bw))), (mr, .inl (cI, 6, .inl (nA (lkN Bw r 6 Rs))))] := hD.sub [0, 1, 2] (by decide) rfl
    refine rb_if_eq (tgt := 43) hx hb dX5_at_36 (by decide) (fun c36 => ?_) (fun c36 => ?_)
    · skip
      refine lv_iconst (v := (nI 0)) hx hb dX5_at_43 (by decide) ?_
      exact rr_iretW hx hb hr hlocks dX5_at_44 hP hD hS (by rw [c36]; rfl)
    refine lv_iconst (v := (nI 1)) hx hb dX5_at_39 (by decide) ?_
    refine lv_goto (tgt := 44) hx hb dX5_at_40 (by decide) ?_
    exact rr_iretW hx hb hr hlocks dX5_at_44 hP hD hS (by rw [c36]; rfl)
  exact absurd c20 (by decide)
set_option maxHeartbeats 4000000 in
set_option maxRecDepth 100000 in
theorem c_X5_at_b (l : Launch) (dC : Nat → ClassId) (dI : Nat → Nat → Nat) (cI cJ cS : ClassId) (m0 mw mt ml mz mi mr md mh : Nat) (im : Bool) (tl at0 st0 nu rm rh : Nat) (Bw : Nat → Nat) (x y : Int32) (hm : mOk Bw) (hbad : (inb x 4 && inb y 2) = false) : Met l yX5_at wsX5_at ({ frames := 3, cells := 0, slots := 0, locals := 65 }) (va_Pc [.ref m0, .int x, .int y] (rB (dC, dI) vwCl [(m0, .inr (5, [.ref mw, .int (bi im), .ref mt, .int (nI tl), .ref ml, .ref mz, .ref mi, .ref mr, .int (nI at0), .int (nI st0), .int (nI nu), .int (nI rm), .int (nI rh), .ref md, .ref mh])), (mw, .inl (cI, 480, .inl (nA Bw)))] (tyz cI cJ cS))) (QcRead (-1)) 0 0 (fun _ => False) := by
  refine Met.ofW (cc := cX5_at) (maxL := 3) (ret := (some .int)) (by decide) rfl ?_
  intro p e s m args below meth c s₁ B hml hv
  obtain ⟨rfl, hP, hKK⟩ := hv
  have hK := hKK.1
  have hx := B.exec
  have hb := B.bytes
  have hr := B.returns
  have hts := atoms_spec (ws := wsX5_at) B.pre
  have hown : s.vm.findClass RX5 = some m.cls := findClass_of_methodNamed B.named
  have hlocks := B.notSynchronized
  have hl := lv_entry ([.ref m0, .int x, .int y]) (n := 3) (Nat.le_of_ble_eq_true rfl)
  rw [lg_entry_eq]
  generalize (lg_sl ([.ref m0, .int x, .int y]) ++ List.replicate (3 - (lg_sl ([.ref m0, .int x, .int y])).length) Slot.unset).toArray = ls at hl ⊢
  have hl : lv_has ls 3 [(0, .ref m0), (1, .int x), (2, .int y)] := hl
  have hn6 := hm.n
  refine lv_iload_n hx hb dX5_at_0 rfl (lv_at hl 1 rfl) ?_
  refine rr_callR (va_runS (As := [.int x]) (rest := []) ⟨hx, hb, hml, hown, hts⟩ (c_X5_isRegister l x ) (va_cwS 1 hts gX5_at_X5_isRegister rfl rfl rfl (by decide +kernel) ⟨Nat.le_of_ble_eq_true rfl, Nat.le_of_ble_eq_true rfl⟩) rr_preT rfl rfl hl.1 rfl (lv_room (Nat.le_of_ble_eq_true rfl)) dX5_at_1 ⟨Nat.zero_le _, Nat.zero_le _⟩) ?_
  refine rb_if_eq (tgt := 17) hx hb dX5_at_4 (by decide) (fun c4 => ?_) (fun c4 => ?_)
  · skip
    refine lv_iconst (v := (-1)) hx hb dX5_at_17 (by decide) ?_
    exact rr_iret hx hb hr hlocks dX5_at_18 (rfl)
  refine lv_iload_n hx hb dX5_at_7 rfl (lv_at hl 2 rfl) ?_
  refine lv_i2l hx hb dX5_at_8 rfl ?_
  refine lv_lconst (v := 0) hx hb dX5_at_9 (by decide) ?_
  refine lv_lconst (v := 1) hx hb dX5_at_10 (by decide) ?_
  refine rr_callR (va_runS (As := [.long y.toInt64, .long 0, .long 1]) (rest := []) ⟨hx, hb, hml, hown, hts⟩ (c_X5_in l y.toInt64 0 1 ) (va_cwS 3 hts gX5_at_X5_in rfl rfl rfl (by decide +kernel) ⟨Nat.le_of_ble_eq_true rfl, Nat.le_of_ble_eq_true rfl⟩) rr_preT rfl rfl hl.1 rfl (lv_room (Nat.le_of_ble_eq_true rfl)) dX5_at_11 ⟨Nat.zero_le _, Nat.zero_le _⟩) ?_
  refine rr_top (y := bi (inb y 2)) (congrArg bi (inL_lit (by decide))) ?_
  refine rb_if_ne (tgt := 19) hx hb dX5_at_14 (by decide) (fun c14 => ?_) (fun c14 => ?_)
  · skip
    exact absurd hbad (by rw [c4, c14]; decide)
  refine lv_iconst (v := (-1)) hx hb dX5_at_17 (by decide) ?_
  exact rr_iret hx hb hr hlocks dX5_at_18 (rfl)
set_option maxHeartbeats 4000000 in
set_option maxRecDepth 100000 in
theorem c_X5_shows_0 (l : Launch) (dC : Nat → ClassId) (dI : Nat → Nat → Nat) (cI cJ cS : ClassId) (m0 mw mt ml mz mi mr md mh : Nat) (im : Bool) (tl at0 st0 nu rm rh : Nat) (Bw : Nat → Nat) (k a b : Nat) (hm : mOk Bw) (hk2 : k < Bw 0) (ha : a < wdB Bw k) (hb2 : b < wdB Bw k) : Met l yX5_shows wsX5_shows ({ frames := 5, cells := 0, slots := 0, locals := 116 }) (va_Pc [.ref m0, .int (nI k), .int (nI a), .int (nI b), .int (nI 0)] (rB (dC, dI) vwCl [(m0, .inr (5, [.ref mw, .int (bi im), .ref mt, .int (nI tl), .ref ml, .ref mz, .ref mi, .ref mr, .int (nI at0), .int (nI st0), .int (nI nu), .int (nI rm), .int (nI rh), .ref md, .ref mh])), (mw, .inl (cI, 480, .inl (nA Bw)))] (tyz cI cJ cS))) (QcRead (nI (addK (kdB Bw k) (wdB Bw k) a b))) 0 0 (fun _ => False) := by
  refine Met.ofW (cc := cX5_shows) (maxL := 5) (ret := (some .int)) (by decide) rfl ?_
  intro p e s m args below meth c s₁ B hml hv
  obtain ⟨rfl, hP, hKK⟩ := hv
  have hK := hKK.1
  have hx := B.exec
  have hb := B.bytes
  have hr := B.returns
  have hts := atoms_spec (ws := wsX5_shows) B.pre
  have hown : s.vm.findClass RX5 = some m.cls := findClass_of_methodNamed B.named
  have hlocks := B.notSynchronized
  have hiX5 : ∀ w ∈ wsX50, w ∈ wsX5_shows := by decide +kernel
  have hl := lv_entry ([.ref m0, .int (nI k), .int (nI a), .int (nI b), .int (nI 0)]) (n := 5) (Nat.le_of_ble_eq_true rfl)
  rw [lg_entry_eq]
  generalize (lg_sl ([.ref m0, .int (nI k), .int (nI a), .int (nI b), .int (nI 0)]) ++ List.replicate (5 - (lg_sl ([.ref m0, .int (nI k), .int (nI a), .int (nI b), .int (nI 0)])).length) Slot.unset).toArray = ls at hl ⊢
  have hl : lv_has ls 5 [(0, .ref m0), (1, .int (nI k)), (2, .int (nI a)), (3, .int (nI b)), (4, .int (nI 0))] := hl
  have hn6 := hm.n
  have hw9 := hm.wd k hk2
  refine lv_aload_n hx hb dX5_shows_0 rfl (lv_at hl 0 rfl) ?_
  refine lv_iload_n hx hb dX5_shows_1 rfl (lv_at hl 1 rfl) ?_
  refine rr_callR (va_runV (As := [.int (nI k)]) (rest := []) ⟨hx, hb, hml, hown, hts⟩ (c_X5_isWheel l dC dI cI cJ cS m0 mw mt ml mz mi mr md mh im tl at0 st0 nu rm rh Bw (nI k) (by first | assumption | omega)) (cwV 1 hts gX5_shows_X5_isWheel rfl rfl rfl (by decide +kernel) ⟨Nat.le_of_ble_eq_true rfl, Nat.le_of_ble_eq_true rfl⟩) (rr_preV hKK hP rfl rfl) rfl rfl hl.1 rfl (lv_room (Nat.le_of_ble_eq_true rfl)) dX5_shows_2 ⟨Nat.zero_le _, Nat.zero_le _⟩) ?_
  refine rr_top (y := bi true) (congrArg bi (inb_lt (by omega) (by omega))) ?_
  refine rb_if_eq (tgt := 61) hx hb dX5_shows_5 (by decide) (fun c5 => ?_) (fun c5 => ?_)
  · exact absurd c5 (by decide)
  refine lv_iload_n hx hb dX5_shows_8 rfl (lv_at hl 2 rfl) ?_
  refine lv_i2l hx hb dX5_shows_9 rfl ?_
  refine lv_lconst (v := 0) hx hb dX5_shows_10 (by decide) ?_
  refine lv_aload_n hx hb dX5_shows_11 rfl (lv_at hl 0 rfl) ?_
  refine va_get (D := (dC, dI)) (ci := 5) (v := .ref mw) (C := RX5) (T := TX5) (N := 15) hx hb hts hiX5 hown hK hP 0 rfl rfl 0 (by decide) (hts (.fieldLink RX5 7 "RestRegistersModel" "w" "[I") (by decide +kernel)) (fun _ h9 => h9) rfl dX5_shows_12 ?_
  refine lv_bipush (v := (nI 8)) hx hb dX5_shows_15 (by decide) ?_
  refine lv_iload_n hx hb dX5_shows_17 rfl (lv_at hl 1 rfl) ?_
  refine rn_iadd hx hb dX5_shows_18 ?_
  refine rn_iald hx hb hK hP 1 0 rfl rfl (i := 8 + k) (by omega) (by decide) (v := (nI (wdB Bw k))) rfl dX5_shows_19 ?_
  have hv19 := hm.wd k (by omega)
  refine lv_iconst (v := (nI 1)) hx hb dX5_shows_20 (by decide) ?_
  refine lv_isub hx hb dX5_shows_21 ?_
  refine lv_i2l hx hb dX5_shows_22 rfl ?_
  refine rr_callR (va_runS (As := [.long ((nI a).toInt64), .long 0, .long (((nI (wdB Bw k)) - (nI 1)).toInt64)]) (rest := []) ⟨hx, hb, hml, hown, hts⟩ (c_X5_in l ((nI a).toInt64) 0 (((nI (wdB Bw k)) - (nI 1)).toInt64) ) (va_cwS 3 hts gX5_shows_X5_in rfl rfl rfl (by decide +kernel) ⟨Nat.le_of_ble_eq_true rfl, Nat.le_of_ble_eq_true rfl⟩) rr_preT rfl rfl hl.1 rfl (lv_room (Nat.le_of_ble_eq_true rfl)) dX5_shows_23 ⟨Nat.zero_le _, Nat.zero_le _⟩) ?_
  refine rr_top (y := bi (inb (nI a) (wdB Bw k))) (congrArg bi (inL_inb (by omega))) ?_
  refine rr_top (y := bi true) (congrArg bi (inb_lt (by omega) (by omega))) ?_
  refine rb_if_eq (tgt := 61) hx hb dX5_shows_26 (by decide) (fun c26 => ?_) (fun c26 => ?_)
  · exact absurd c26 (by decide)
  refine lv_iload_n hx hb dX5_shows_29 rfl (lv_at hl 3 rfl) ?_
  refine lv_i2l hx hb dX5_shows_30 rfl ?_
  refine lv_lconst (v := 0) hx hb dX5_shows_31 (by decide) ?_
  refine lv_aload_n hx hb dX5_shows_32 rfl (lv_at hl 0 rfl) ?_
  refine va_get (D := (dC, dI)) (ci := 5) (v := .ref mw) (C := RX5) (T := TX5) (N := 15) hx hb hts hiX5 hown hK hP 0 rfl rfl 0 (by decide) (hts (.fieldLink RX5 7 "RestRegistersModel" "w" "[I") (by decide +kernel)) (fun _ h9 => h9) rfl dX5_shows_33 ?_
  refine lv_bipush (v := (nI 8)) hx hb dX5_shows_36 (by decide) ?_
  refine lv_iload_n hx hb dX5_shows_38 rfl (lv_at hl 1 rfl) ?_
  refine rn_iadd hx hb dX5_shows_39 ?_
  refine rn_iald hx hb hK hP 1 0 rfl rfl (i := 8 + k) (by omega) (by decide) (v := (nI (wdB Bw k))) rfl dX5_shows_40 ?_
  have hv40 := hm.wd k (by omega)
  refine lv_iconst (v := (nI 1)) hx hb dX5_shows_41 (by decide) ?_
  refine lv_isub hx hb dX5_shows_42 ?_
  refine lv_i2l hx hb dX5_shows_43 rfl ?_
  refine rr_callR (va_runS (As := [.long ((nI b).toInt64), .long 0, .long (((nI (wdB Bw k)) - (nI 1)).toInt64)]) (rest := []) ⟨hx, hb, hml, hown, hts⟩ (c_X5_in l ((nI b).toInt64) 0 (((nI (wdB Bw k)) - (nI 1)).toInt64) ) (va_cwS 3 hts gX5_shows_X5_in rfl rfl rfl (by decide +kernel) ⟨Nat.le_of_ble_eq_true rfl, Nat.le_of_ble_eq_true rfl⟩) rr_preT rfl rfl hl.1 rfl (lv_room (Nat.le_of_ble_eq_true rfl)) dX5_shows_44 ⟨Nat.zero_le _, Nat.zero_le _⟩) ?_
  refine rr_top (y := bi (inb (nI b) (wdB Bw k))) (congrArg bi (inL_inb (by omega))) ?_
  refine rr_top (y := bi true) (congrArg bi (inb_lt (by omega) (by omega))) ?_
  refine rb_if_eq (tgt := 61) hx hb dX5_shows_47 (by decide) (fun c47 => ?_) (fun c47 => ?_)
  · exact absurd c47 (by decide)
  refine lv_iload hx hb dX5_shows_50 (lv_at hl 4 rfl) ?_
  refine lv_i2l hx hb dX5_shows_52 rfl ?_
  refine lv_lconst (v := 0) hx hb dX5_shows_53 (by decide) ?_
  refine lv_lconst (v := 1) hx hb dX5_shows_54 (by decide) ?_
  refine rr_callR (va_runS (As := [.long ((nI 0).toInt64), .long 0, .long 1]) (rest := []) ⟨hx, hb, hml, hown, hts⟩ (c_X5_in l ((nI 0).toInt64) 0 1 ) (va_cwS 3 hts gX5_shows_X5_in rfl rfl rfl (by decide +kernel) ⟨Nat.le_of_ble_eq_true rfl, Nat.le_of_ble_eq_true rfl⟩) rr_preT rfl rfl hl.1 rfl (lv_room (Nat.le_of_ble_eq_true rfl)) dX5_shows_55 ⟨Nat.zero_le _, Nat.zero_le _⟩) ?_
  refine rr_top (y := bi (inb (nI 0) 2)) (congrArg bi (inL_lit (by decide))) ?_
  refine rr_top (y := bi true) (congrArg bi (inb_lt (by omega) (by omega))) ?_
  refine rb_if_ne (tgt := 63) hx hb dX5_shows_58 (by decide) (fun c58 => ?_) (fun c58 => ?_)
  rotate_left
  · exact absurd c58 (by decide)
  refine lv_iload hx hb dX5_shows_63 (lv_at hl 4 rfl) ?_
  refine rn_if_ne (tgt := 78) hx hb dX5_shows_65 (by decide) (by omega) (fun c65 => ?_) (fun c65 => ?_)
  · skip
    exact absurd rfl c65
  refine lv_aload_n hx hb dX5_shows_68 rfl (lv_at hl 0 rfl) ?_
  refine lv_iload_n hx hb dX5_shows_69 rfl (lv_at hl 1 rfl) ?_
  refine lv_iload_n hx hb dX5_shows_70 rfl (lv_at hl 2 rfl) ?_
  refine lv_iload_n hx hb dX5_shows_71 rfl (lv_at hl 3 rfl) ?_
  refine rr_callR (va_runV (As := [.int (nI k), .int (nI a), .int (nI b)]) (rest := []) ⟨hx, hb, hml, hown, hts⟩ (c_X5_added l dC dI cI cJ cS m0 mw mt ml mz mi mr md mh im tl at0 st0 nu rm rh Bw k a b (kdB Bw k) (wdB Bw k) (rfl) (rfl) (hm.kd k (by omega)) ((hm.wd k (by omega)).1) ((hm.wd k (by omega)).2) (by first | assumption | omega) (by first | assumption | omega) (by first | assumption | omega)) (cwV 3 hts gX5_shows_X5_added rfl rfl rfl (by decide +kernel) ⟨Nat.le_of_ble_eq_true rfl, Nat.le_of_ble_eq_true rfl⟩) (rr_preV hKK hP rfl rfl) rfl rfl hl.1 rfl (lv_room (Nat.le_of_ble_eq_true rfl)) dX5_shows_72 ⟨Nat.zero_le _, Nat.zero_le _⟩) ?_
  refine lv_goto (tgt := 85) hx hb dX5_shows_75 (by decide) ?_
  exact rr_iret hx hb hr hlocks dX5_shows_85 (rfl)
set_option maxHeartbeats 4000000 in
set_option maxRecDepth 100000 in
theorem c_X5_shows_1 (l : Launch) (dC : Nat → ClassId) (dI : Nat → Nat → Nat) (cI cJ cS : ClassId) (m0 mw mt ml mz mi mr md mh : Nat) (im : Bool) (tl at0 st0 nu rm rh : Nat) (Bw : Nat → Nat) (k a b : Nat) (hm : mOk Bw) (hk2 : k < Bw 0) (ha : a < wdB Bw k) (hb2 : b < wdB Bw k) : Met l yX5_shows wsX5_shows ({ frames := 5, cells := 0, slots := 0, locals := 116 }) (va_Pc [.ref m0, .int (nI k), .int (nI a), .int (nI b), .int (nI 1)] (rB (dC, dI) vwCl [(m0, .inr (5, [.ref mw, .int (bi im), .ref mt, .int (nI tl), .ref ml, .ref mz, .ref mi, .ref mr, .int (nI at0), .int (nI st0), .int (nI nu), .int (nI rm), .int (nI rh), .ref md, .ref mh])), (mw, .inl (cI, 480, .inl (nA Bw)))] (tyz cI cJ cS))) (QcRead (nI (addO (kdB Bw k) (wdB Bw k) 0 a b))) 0 0 (fun _ => False) := by
  refine Met.ofW (cc := cX5_shows) (maxL := 5) (ret := (some .int)) (by decide) rfl ?_
  intro p e s m args below meth c s₁ B hml hv
  obtain ⟨rfl, hP, hKK⟩ := hv
  have hK := hKK.1
  have hx := B.exec
  have hb := B.bytes
  have hr := B.returns
  have hts := atoms_spec (ws := wsX5_shows) B.pre
  have hown : s.vm.findClass RX5 = some m.cls := findClass_of_methodNamed B.named
  have hlocks := B.notSynchronized
  have hiX5 : ∀ w ∈ wsX50, w ∈ wsX5_shows := by decide +kernel
  have hl := lv_entry ([.ref m0, .int (nI k), .int (nI a), .int (nI b), .int (nI 1)]) (n := 5) (Nat.le_of_ble_eq_true rfl)
  rw [lg_entry_eq]
  generalize (lg_sl ([.ref m0, .int (nI k), .int (nI a), .int (nI b), .int (nI 1)]) ++ List.replicate (5 - (lg_sl ([.ref m0, .int (nI k), .int (nI a), .int (nI b), .int (nI 1)])).length) Slot.unset).toArray = ls at hl ⊢
  have hl : lv_has ls 5 [(0, .ref m0), (1, .int (nI k)), (2, .int (nI a)), (3, .int (nI b)), (4, .int (nI 1))] := hl
  have hn6 := hm.n
  have hw9 := hm.wd k hk2
  refine lv_aload_n hx hb dX5_shows_0 rfl (lv_at hl 0 rfl) ?_
  refine lv_iload_n hx hb dX5_shows_1 rfl (lv_at hl 1 rfl) ?_
  refine rr_callR (va_runV (As := [.int (nI k)]) (rest := []) ⟨hx, hb, hml, hown, hts⟩ (c_X5_isWheel l dC dI cI cJ cS m0 mw mt ml mz mi mr md mh im tl at0 st0 nu rm rh Bw (nI k) (by first | assumption | omega)) (cwV 1 hts gX5_shows_X5_isWheel rfl rfl rfl (by decide +kernel) ⟨Nat.le_of_ble_eq_true rfl, Nat.le_of_ble_eq_true rfl⟩) (rr_preV hKK hP rfl rfl) rfl rfl hl.1 rfl (lv_room (Nat.le_of_ble_eq_true rfl)) dX5_shows_2 ⟨Nat.zero_le _, Nat.zero_le _⟩) ?_
  refine rr_top (y := bi true) (congrArg bi (inb_lt (by omega) (by omega))) ?_
  refine rb_if_eq (tgt := 61) hx hb dX5_shows_5 (by decide) (fun c5 => ?_) (fun c5 => ?_)
  · exact absurd c5 (by decide)
  refine lv_iload_n hx hb dX5_shows_8 rfl (lv_at hl 2 rfl) ?_
  refine lv_i2l hx hb dX5_shows_9 rfl ?_
  refine lv_lconst (v := 0) hx hb dX5_shows_10 (by decide) ?_
  refine lv_aload_n hx hb dX5_shows_11 rfl (lv_at hl 0 rfl) ?_
  refine va_get (D := (dC, dI)) (ci := 5) (v := .ref mw) (C := RX5) (T := TX5) (N := 15) hx hb hts hiX5 hown hK hP 0 rfl rfl 0 (by decide) (hts (.fieldLink RX5 7 "RestRegistersModel" "w" "[I") (by decide +kernel)) (fun _ h9 => h9) rfl dX5_shows_12 ?_
  refine lv_bipush (v := (nI 8)) hx hb dX5_shows_15 (by decide) ?_
  refine lv_iload_n hx hb dX5_shows_17 rfl (lv_at hl 1 rfl) ?_
  refine rn_iadd hx hb dX5_shows_18 ?_
  refine rn_iald hx hb hK hP 1 0 rfl rfl (i := 8 + k) (by omega) (by decide) (v := (nI (wdB Bw k))) rfl dX5_shows_19 ?_
  have hv19 := hm.wd k (by omega)
  refine lv_iconst (v := (nI 1)) hx hb dX5_shows_20 (by decide) ?_
  refine lv_isub hx hb dX5_shows_21 ?_
  refine lv_i2l hx hb dX5_shows_22 rfl ?_
  refine rr_callR (va_runS (As := [.long ((nI a).toInt64), .long 0, .long (((nI (wdB Bw k)) - (nI 1)).toInt64)]) (rest := []) ⟨hx, hb, hml, hown, hts⟩ (c_X5_in l ((nI a).toInt64) 0 (((nI (wdB Bw k)) - (nI 1)).toInt64) ) (va_cwS 3 hts gX5_shows_X5_in rfl rfl rfl (by decide +kernel) ⟨Nat.le_of_ble_eq_true rfl, Nat.le_of_ble_eq_true rfl⟩) rr_preT rfl rfl hl.1 rfl (lv_room (Nat.le_of_ble_eq_true rfl)) dX5_shows_23 ⟨Nat.zero_le _, Nat.zero_le _⟩) ?_
  refine rr_top (y := bi (inb (nI a) (wdB Bw k))) (congrArg bi (inL_inb (by omega))) ?_
  refine rr_top (y := bi true) (congrArg bi (inb_lt (by omega) (by omega))) ?_
  refine rb_if_eq (tgt := 61) hx hb dX5_shows_26 (by decide) (fun c26 => ?_) (fun c26 => ?_)
  · exact absurd c26 (by decide)
  refine lv_iload_n hx hb dX5_shows_29 rfl (lv_at hl 3 rfl) ?_
  refine lv_i2l hx hb dX5_shows_30 rfl ?_
  refine lv_lconst (v := 0) hx hb dX5_shows_31 (by decide) ?_
  refine lv_aload_n hx hb dX5_shows_32 rfl (lv_at hl 0 rfl) ?_
  refine va_get (D := (dC, dI)) (ci := 5) (v := .ref mw) (C := RX5) (T := TX5) (N := 15) hx hb hts hiX5 hown hK hP 0 rfl rfl 0 (by decide) (hts (.fieldLink RX5 7 "RestRegistersModel" "w" "[I") (by decide +kernel)) (fun _ h9 => h9) rfl dX5_shows_33 ?_
  refine lv_bipush (v := (nI 8)) hx hb dX5_shows_36 (by decide) ?_
  refine lv_iload_n hx hb dX5_shows_38 rfl (lv_at hl 1 rfl) ?_
  refine rn_iadd hx hb dX5_shows_39 ?_
  refine rn_iald hx hb hK hP 1 0 rfl rfl (i := 8 + k) (by omega) (by decide) (v := (nI (wdB Bw k))) rfl dX5_shows_40 ?_
  have hv40 := hm.wd k (by omega)
  refine lv_iconst (v := (nI 1)) hx hb dX5_shows_41 (by decide) ?_
  refine lv_isub hx hb dX5_shows_42 ?_
  refine lv_i2l hx hb dX5_shows_43 rfl ?_
  refine rr_callR (va_runS (As := [.long ((nI b).toInt64), .long 0, .long (((nI (wdB Bw k)) - (nI 1)).toInt64)]) (rest := []) ⟨hx, hb, hml, hown, hts⟩ (c_X5_in l ((nI b).toInt64) 0 (((nI (wdB Bw k)) - (nI 1)).toInt64) ) (va_cwS 3 hts gX5_shows_X5_in rfl rfl rfl (by decide +kernel) ⟨Nat.le_of_ble_eq_true rfl, Nat.le_of_ble_eq_true rfl⟩) rr_preT rfl rfl hl.1 rfl (lv_room (Nat.le_of_ble_eq_true rfl)) dX5_shows_44 ⟨Nat.zero_le _, Nat.zero_le _⟩) ?_
  refine rr_top (y := bi (inb (nI b) (wdB Bw k))) (congrArg bi (inL_inb (by omega))) ?_
  refine rr_top (y := bi true) (congrArg bi (inb_lt (by omega) (by omega))) ?_
  refine rb_if_eq (tgt := 61) hx hb dX5_shows_47 (by decide) (fun c47 => ?_) (fun c47 => ?_)
  · exact absurd c47 (by decide)
  refine lv_iload hx hb dX5_shows_50 (lv_at hl 4 rfl) ?_
  refine lv_i2l hx hb dX5_shows_52 rfl ?_
  refine lv_lconst (v := 0) hx hb dX5_shows_53 (by decide) ?_
  refine lv_lconst (v := 1) hx hb dX5_shows_54 (by decide) ?_
  refine rr_callR (va_runS (As := [.long ((nI 1).toInt64), .long 0, .long 1]) (rest := []) ⟨hx, hb, hml, hown, hts⟩ (c_X5_in l ((nI 1).toInt64) 0 1 ) (va_cwS 3 hts gX5_shows_X5_in rfl rfl rfl (by decide +kernel) ⟨Nat.le_of_ble_eq_true rfl, Nat.le_of_ble_eq_true rfl⟩) rr_preT rfl rfl hl.1 rfl (lv_room (Nat.le_of_ble_eq_true rfl)) dX5_shows_55 ⟨Nat.zero_le _, Nat.zero_le _⟩) ?_
  refine rr_top (y := bi (inb (nI 1) 2)) (congrArg bi (inL_lit (by decide))) ?_
  refine rr_top (y := bi true) (congrArg bi (inb_lt (by omega) (by omega))) ?_
  refine rb_if_ne (tgt := 63) hx hb dX5_shows_58 (by decide) (fun c58 => ?_) (fun c58 => ?_)
  rotate_left
  · exact absurd c58 (by decide)
  refine lv_iload hx hb dX5_shows_63 (lv_at hl 4 rfl) ?_
  refine rn_if_ne (tgt := 78) hx hb dX5_shows_65 (by decide) (by omega) (fun c65 => ?_) (fun c65 => ?_)
  · skip
    refine lv_aload_n hx hb dX5_shows_78 rfl (lv_at hl 0 rfl) ?_
    refine lv_iload_n hx hb dX5_shows_79 rfl (lv_at hl 1 rfl) ?_
    refine lv_iload_n hx hb dX5_shows_80 rfl (lv_at hl 2 rfl) ?_
    refine lv_iload_n hx hb dX5_shows_81 rfl (lv_at hl 3 rfl) ?_
    refine rr_callR (va_runV (As := [.int (nI k), .int (nI a), .int (nI b)]) (rest := []) ⟨hx, hb, hml, hown, hts⟩ (c_X5_timed l dC dI cI cJ cS m0 mw mt ml mz mi mr md mh im tl at0 st0 nu rm rh Bw k a b (kdB Bw k) (wdB Bw k) (rfl) (rfl) (hm.kd k (by omega)) ((hm.wd k (by omega)).1) ((hm.wd k (by omega)).2) (by first | assumption | omega) (by first | assumption | omega) (by first | assumption | omega)) (cwV 3 hts gX5_shows_X5_timed rfl rfl rfl (by decide +kernel) ⟨Nat.le_of_ble_eq_true rfl, Nat.le_of_ble_eq_true rfl⟩) (rr_preV hKK hP rfl rfl) rfl rfl hl.1 rfl (lv_room (Nat.le_of_ble_eq_true rfl)) dX5_shows_82 ⟨Nat.zero_le _, Nat.zero_le _⟩) ?_
    exact rr_iret hx hb hr hlocks dX5_shows_85 (rfl)
  exact absurd c65 (by decide)
set_option maxHeartbeats 4000000 in
set_option maxRecDepth 100000 in
theorem c_X5_shows_b1 (l : Launch) (dC : Nat → ClassId) (dI : Nat → Nat → Nat) (cI cJ cS : ClassId) (m0 mw mt ml mz mi mr md mh : Nat) (im : Bool) (tl at0 st0 nu rm rh : Nat) (Bw : Nat → Nat) (x y z u : Int32) (hm : mOk Bw) (hbad : (inb x (Bw 0)) = false) : Met l yX5_shows wsX5_shows ({ frames := 5, cells := 0, slots := 0, locals := 116 }) (va_Pc [.ref m0, .int x, .int y, .int z, .int u] (rB (dC, dI) vwCl [(m0, .inr (5, [.ref mw, .int (bi im), .ref mt, .int (nI tl), .ref ml, .ref mz, .ref mi, .ref mr, .int (nI at0), .int (nI st0), .int (nI nu), .int (nI rm), .int (nI rh), .ref md, .ref mh])), (mw, .inl (cI, 480, .inl (nA Bw)))] (tyz cI cJ cS))) (QcRead (-1)) 0 0 (fun _ => False) := by
  refine Met.ofW (cc := cX5_shows) (maxL := 5) (ret := (some .int)) (by decide) rfl ?_
  intro p e s m args below meth c s₁ B hml hv
  obtain ⟨rfl, hP, hKK⟩ := hv
  have hK := hKK.1
  have hx := B.exec
  have hb := B.bytes
  have hr := B.returns
  have hts := atoms_spec (ws := wsX5_shows) B.pre
  have hown : s.vm.findClass RX5 = some m.cls := findClass_of_methodNamed B.named
  have hlocks := B.notSynchronized
  have hiX5 : ∀ w ∈ wsX50, w ∈ wsX5_shows := by decide +kernel
  have hl := lv_entry ([.ref m0, .int x, .int y, .int z, .int u]) (n := 5) (Nat.le_of_ble_eq_true rfl)
  rw [lg_entry_eq]
  generalize (lg_sl ([.ref m0, .int x, .int y, .int z, .int u]) ++ List.replicate (5 - (lg_sl ([.ref m0, .int x, .int y, .int z, .int u])).length) Slot.unset).toArray = ls at hl ⊢
  have hl : lv_has ls 5 [(0, .ref m0), (1, .int x), (2, .int y), (3, .int z), (4, .int u)] := hl
  have hn6 := hm.n
  refine lv_aload_n hx hb dX5_shows_0 rfl (lv_at hl 0 rfl) ?_
  refine lv_iload_n hx hb dX5_shows_1 rfl (lv_at hl 1 rfl) ?_
  refine rr_callR (va_runV (As := [.int x]) (rest := []) ⟨hx, hb, hml, hown, hts⟩ (c_X5_isWheel l dC dI cI cJ cS m0 mw mt ml mz mi mr md mh im tl at0 st0 nu rm rh Bw x (by first | assumption | omega)) (cwV 1 hts gX5_shows_X5_isWheel rfl rfl rfl (by decide +kernel) ⟨Nat.le_of_ble_eq_true rfl, Nat.le_of_ble_eq_true rfl⟩) (rr_preV hKK hP rfl rfl) rfl rfl hl.1 rfl (lv_room (Nat.le_of_ble_eq_true rfl)) dX5_shows_2 ⟨Nat.zero_le _, Nat.zero_le _⟩) ?_
  refine rb_if_eq (tgt := 61) hx hb dX5_shows_5 (by decide) (fun c5 => ?_) (fun c5 => ?_)
  · skip
    refine lv_iconst (v := (-1)) hx hb dX5_shows_61 (by decide) ?_
    exact rr_iret hx hb hr hlocks dX5_shows_62 (rfl)
  exact absurd hbad (by rw [c5]; decide)
set_option maxHeartbeats 4000000 in
set_option maxRecDepth 100000 in
theorem c_X5_shows_b2 (l : Launch) (dC : Nat → ClassId) (dI : Nat → Nat → Nat) (cI cJ cS : ClassId) (m0 mw mt ml mz mi mr md mh : Nat) (im : Bool) (tl at0 st0 nu rm rh : Nat) (Bw : Nat → Nat) (k : Nat) (y z u : Int32) (hm : mOk Bw) (hk2 : k < Bw 0) (hbad : (inb y (wdB Bw k) && inb z (wdB Bw k) && inb u 2) = false) : Met l yX5_shows wsX5_shows ({ frames := 5, cells := 0, slots := 0, locals := 116 }) (va_Pc [.ref m0, .int (nI k), .int y, .int z, .int u] (rB (dC, dI) vwCl [(m0, .inr (5, [.ref mw, .int (bi im), .ref mt, .int (nI tl), .ref ml, .ref mz, .ref mi, .ref mr, .int (nI at0), .int (nI st0), .int (nI nu), .int (nI rm), .int (nI rh), .ref md, .ref mh])), (mw, .inl (cI, 480, .inl (nA Bw)))] (tyz cI cJ cS))) (QcRead (-1)) 0 0 (fun _ => False) := by
  refine Met.ofW (cc := cX5_shows) (maxL := 5) (ret := (some .int)) (by decide) rfl ?_
  intro p e s m args below meth c s₁ B hml hv
  obtain ⟨rfl, hP, hKK⟩ := hv
  have hK := hKK.1
  have hx := B.exec
  have hb := B.bytes
  have hr := B.returns
  have hts := atoms_spec (ws := wsX5_shows) B.pre
  have hown : s.vm.findClass RX5 = some m.cls := findClass_of_methodNamed B.named
  have hlocks := B.notSynchronized
  have hiX5 : ∀ w ∈ wsX50, w ∈ wsX5_shows := by decide +kernel
  have hl := lv_entry ([.ref m0, .int (nI k), .int y, .int z, .int u]) (n := 5) (Nat.le_of_ble_eq_true rfl)
  rw [lg_entry_eq]
  generalize (lg_sl ([.ref m0, .int (nI k), .int y, .int z, .int u]) ++ List.replicate (5 - (lg_sl ([.ref m0, .int (nI k), .int y, .int z, .int u])).length) Slot.unset).toArray = ls at hl ⊢
  have hl : lv_has ls 5 [(0, .ref m0), (1, .int (nI k)), (2, .int y), (3, .int z), (4, .int u)] := hl
  have hn6 := hm.n
  have hw9 := hm.wd k hk2
  refine lv_aload_n hx hb dX5_shows_0 rfl (lv_at hl 0 rfl) ?_
  refine lv_iload_n hx hb dX5_shows_1 rfl (lv_at hl 1 rfl) ?_
  refine rr_callR (va_runV (As := [.int (nI k)]) (rest := []) ⟨hx, hb, hml, hown, hts⟩ (c_X5_isWheel l dC dI cI cJ cS m0 mw mt ml mz mi mr md mh im tl at0 st0 nu rm rh Bw (nI k) (by first | assumption | omega)) (cwV 1 hts gX5_shows_X5_isWheel rfl rfl rfl (by decide +kernel) ⟨Nat.le_of_ble_eq_true rfl, Nat.le_of_ble_eq_true rfl⟩) (rr_preV hKK hP rfl rfl) rfl rfl hl.1 rfl (lv_room (Nat.le_of_ble_eq_true rfl)) dX5_shows_2 ⟨Nat.zero_le _, Nat.zero_le _⟩) ?_
  refine rr_top (y := bi true) (congrArg bi (inb_lt hk2 (by omega))) ?_
  refine rb_if_eq (tgt := 61) hx hb dX5_shows_5 (by decide) (fun c5 => ?_) (fun c5 => ?_)
  · exact absurd c5 (by decide)
  refine lv_iload_n hx hb dX5_shows_8 rfl (lv_at hl 2 rfl) ?_
  refine lv_i2l hx hb dX5_shows_9 rfl ?_
  refine lv_lconst (v := 0) hx hb dX5_shows_10 (by decide) ?_
  refine lv_aload_n hx hb dX5_shows_11 rfl (lv_at hl 0 rfl) ?_
  refine va_get (D := (dC, dI)) (ci := 5) (v := .ref mw) (C := RX5) (T := TX5) (N := 15) hx hb hts hiX5 hown hK hP 0 rfl rfl 0 (by decide) (hts (.fieldLink RX5 7 "RestRegistersModel" "w" "[I") (by decide +kernel)) (fun _ h9 => h9) rfl dX5_shows_12 ?_
  refine lv_bipush (v := (nI 8)) hx hb dX5_shows_15 (by decide) ?_
  refine lv_iload_n hx hb dX5_shows_17 rfl (lv_at hl 1 rfl) ?_
  refine rn_iadd hx hb dX5_shows_18 ?_
  refine rn_iald hx hb hK hP 1 0 rfl rfl (i := 8 + k) (by omega) (by decide) (v := (nI (wdB Bw k))) rfl dX5_shows_19 ?_
  have hv19 := hm.wd k (by omega)
  refine lv_iconst (v := (nI 1)) hx hb dX5_shows_20 (by decide) ?_
  refine lv_isub hx hb dX5_shows_21 ?_
  refine lv_i2l hx hb dX5_shows_22 rfl ?_
  refine rr_callR (va_runS (As := [.long y.toInt64, .long 0, .long (((nI (wdB Bw k)) - (nI 1)).toInt64)]) (rest := []) ⟨hx, hb, hml, hown, hts⟩ (c_X5_in l y.toInt64 0 (((nI (wdB Bw k)) - (nI 1)).toInt64) ) (va_cwS 3 hts gX5_shows_X5_in rfl rfl rfl (by decide +kernel) ⟨Nat.le_of_ble_eq_true rfl, Nat.le_of_ble_eq_true rfl⟩) rr_preT rfl rfl hl.1 rfl (lv_room (Nat.le_of_ble_eq_true rfl)) dX5_shows_23 ⟨Nat.zero_le _, Nat.zero_le _⟩) ?_
  refine rr_top (y := bi (inb y (wdB Bw k))) (congrArg bi (inL_inb (by omega))) ?_
  refine rb_if_eq (tgt := 61) hx hb dX5_shows_26 (by decide) (fun c26 => ?_) (fun c26 => ?_)
  · skip
    refine lv_iconst (v := (-1)) hx hb dX5_shows_61 (by decide) ?_
    exact rr_iret hx hb hr hlocks dX5_shows_62 (rfl)
  refine lv_iload_n hx hb dX5_shows_29 rfl (lv_at hl 3 rfl) ?_
  refine lv_i2l hx hb dX5_shows_30 rfl ?_
  refine lv_lconst (v := 0) hx hb dX5_shows_31 (by decide) ?_
  refine lv_aload_n hx hb dX5_shows_32 rfl (lv_at hl 0 rfl) ?_
  refine va_get (D := (dC, dI)) (ci := 5) (v := .ref mw) (C := RX5) (T := TX5) (N := 15) hx hb hts hiX5 hown hK hP 0 rfl rfl 0 (by decide) (hts (.fieldLink RX5 7 "RestRegistersModel" "w" "[I") (by decide +kernel)) (fun _ h9 => h9) rfl dX5_shows_33 ?_
  refine lv_bipush (v := (nI 8)) hx hb dX5_shows_36 (by decide) ?_
  refine lv_iload_n hx hb dX5_shows_38 rfl (lv_at hl 1 rfl) ?_
  refine rn_iadd hx hb dX5_shows_39 ?_
  refine rn_iald hx hb hK hP 1 0 rfl rfl (i := 8 + k) (by omega) (by decide) (v := (nI (wdB Bw k))) rfl dX5_shows_40 ?_
  have hv40 := hm.wd k (by omega)
  refine lv_iconst (v := (nI 1)) hx hb dX5_shows_41 (by decide) ?_
  refine lv_isub hx hb dX5_shows_42 ?_
  refine lv_i2l hx hb dX5_shows_43 rfl ?_
  refine rr_callR (va_runS (As := [.long z.toInt64, .long 0, .long (((nI (wdB Bw k)) - (nI 1)).toInt64)]) (rest := []) ⟨hx, hb, hml, hown, hts⟩ (c_X5_in l z.toInt64 0 (((nI (wdB Bw k)) - (nI 1)).toInt64) ) (va_cwS 3 hts gX5_shows_X5_in rfl rfl rfl (by decide +kernel) ⟨Nat.le_of_ble_eq_true rfl, Nat.le_of_ble_eq_true rfl⟩) rr_preT rfl rfl hl.1 rfl (lv_room (Nat.le_of_ble_eq_true rfl)) dX5_shows_44 ⟨Nat.zero_le _, Nat.zero_le _⟩) ?_
  refine rr_top (y := bi (inb z (wdB Bw k))) (congrArg bi (inL_inb (by omega))) ?_
  refine rb_if_eq (tgt := 61) hx hb dX5_shows_47 (by decide) (fun c47 => ?_) (fun c47 => ?_)
  · skip
    refine lv_iconst (v := (-1)) hx hb dX5_shows_61 (by decide) ?_
    exact rr_iret hx hb hr hlocks dX5_shows_62 (rfl)
  refine lv_iload hx hb dX5_shows_50 (lv_at hl 4 rfl) ?_
  refine lv_i2l hx hb dX5_shows_52 rfl ?_
  refine lv_lconst (v := 0) hx hb dX5_shows_53 (by decide) ?_
  refine lv_lconst (v := 1) hx hb dX5_shows_54 (by decide) ?_
  refine rr_callR (va_runS (As := [.long u.toInt64, .long 0, .long 1]) (rest := []) ⟨hx, hb, hml, hown, hts⟩ (c_X5_in l u.toInt64 0 1 ) (va_cwS 3 hts gX5_shows_X5_in rfl rfl rfl (by decide +kernel) ⟨Nat.le_of_ble_eq_true rfl, Nat.le_of_ble_eq_true rfl⟩) rr_preT rfl rfl hl.1 rfl (lv_room (Nat.le_of_ble_eq_true rfl)) dX5_shows_55 ⟨Nat.zero_le _, Nat.zero_le _⟩) ?_
  refine rr_top (y := bi (inb u 2)) (congrArg bi (inL_lit (by decide))) ?_
  refine rb_if_ne (tgt := 63) hx hb dX5_shows_58 (by decide) (fun c58 => ?_) (fun c58 => ?_)
  · skip
    exact absurd hbad (by rw [c26, c47, c58]; decide)
  refine lv_iconst (v := (-1)) hx hb dX5_shows_61 (by decide) ?_
  exact rr_iret hx hb hr hlocks dX5_shows_62 (rfl)
set_option maxHeartbeats 4000000 in
set_option maxRecDepth 100000 in
theorem c_X5_count_0 (l : Launch) (dC : Nat → ClassId) (dI : Nat → Nat → Nat) (cI cJ cS : ClassId) (m0 mw mt ml mz mi mr md mh : Nat) (im : Bool) (tl at0 st0 nu rm rh : Nat) (Bw : Nat → Nat) (hm : mOk Bw) : Met l yX5_count wsX5_count ({ frames := 4, cells := 0, slots := 0, locals := 87 }) (va_Pc [.ref m0, .int (nI 0)] (rB (dC, dI) vwCl [(m0, .inr (5, [.ref mw, .int (bi im), .ref mt, .int (nI tl), .ref ml, .ref mz, .ref mi, .ref mr, .int (nI at0), .int (nI st0), .int (nI nu), .int (nI rm), .int (nI rh), .ref md, .ref mh])), (mw, .inl (cI, 480, .inl (nA Bw)))] (tyz cI cJ cS))) (QcRead (nI (Bw 0))) 0 0 (fun _ => False) := by
  refine Met.ofW (cc := cX5_count) (maxL := 2) (ret := (some .int)) (by decide) rfl ?_
  intro p e s m args below meth c s₁ B hml hv
  obtain ⟨rfl, hP, hKK⟩ := hv
  have hK := hKK.1
  have hx := B.exec
  have hb := B.bytes
  have hr := B.returns
  have hts := atoms_spec (ws := wsX5_count) B.pre
  have hown : s.vm.findClass RX5 = some m.cls := findClass_of_methodNamed B.named
  have hlocks := B.notSynchronized
  have hiX5 : ∀ w ∈ wsX50, w ∈ wsX5_count := by decide +kernel
  have hl := lv_entry ([.ref m0, .int (nI 0)]) (n := 2) (Nat.le_of_ble_eq_true rfl)
  rw [lg_entry_eq]
  generalize (lg_sl ([.ref m0, .int (nI 0)]) ++ List.replicate (2 - (lg_sl ([.ref m0, .int (nI 0)])).length) Slot.unset).toArray = ls at hl ⊢
  have hl : lv_has ls 2 [(0, .ref m0), (1, .int (nI 0))] := hl
  have hn6 := hm.n
  refine lv_iload_n hx hb dX5_count_0 rfl (lv_at hl 1 rfl) ?_
  by_cases w1_0 : 0 = 0
  · refine rn_top w1_0 ?_
    refine lv_tableIn (off := 43) (tgt := 44) hx hb dX5_count_1 (by decide) (by decide) (by decide) (by decide) ?_
    refine lv_aload_n hx hb dX5_count_44 rfl (lv_at hl 0 rfl) ?_
    refine va_get (D := (dC, dI)) (ci := 5) (v := .ref mw) (C := RX5) (T := TX5) (N := 15) hx hb hts hiX5 hown hK hP 0 rfl rfl 0 (by decide) (hts (.fieldLink RX5 7 "RestRegistersModel" "w" "[I") (by decide +kernel)) (fun _ h9 => h9) rfl dX5_count_45 ?_
    refine lv_iconst (v := (nI 0)) hx hb dX5_count_48 (by decide) ?_
    refine rn_iald hx hb hK hP 1 0 rfl rfl (i := 0) (by omega) (by decide) (v := (nI (Bw 0))) rfl dX5_count_49 ?_
    exact rr_iret hx hb hr hlocks dX5_count_50 (rfl)
  by_cases w1_1 : 0 = 1
  · refine rn_top w1_1 ?_
    refine lv_tableIn (off := 50) (tgt := 51) hx hb dX5_count_1 (by decide) (by decide) (by decide) (by decide) ?_
    exact absurd w1_1 (by decide)
  by_cases w1_2 : 0 = 2
  · refine rn_top w1_2 ?_
    refine lv_tableIn (off := 57) (tgt := 58) hx hb dX5_count_1 (by decide) (by decide) (by decide) (by decide) ?_
    exact absurd w1_2 (by decide)
  by_cases w1_3 : 0 = 3
  · refine rn_top w1_3 ?_
    refine lv_tableIn (off := 62) (tgt := 63) hx hb dX5_count_1 (by decide) (by decide) (by decide) (by decide) ?_
    exact absurd w1_3 (by decide)
  by_cases w1_4 : 0 = 4
  · refine rn_top w1_4 ?_
    refine lv_tableIn (off := 67) (tgt := 68) hx hb dX5_count_1 (by decide) (by decide) (by decide) (by decide) ?_
    exact absurd w1_4 (by decide)
  by_cases w1_5 : 0 = 5
  · refine rn_top w1_5 ?_
    refine lv_tableIn (off := 72) (tgt := 73) hx hb dX5_count_1 (by decide) (by decide) (by decide) (by decide) ?_
    exact absurd w1_5 (by decide)
  by_cases w1_6 : 0 = 6
  · refine rn_top w1_6 ?_
    refine lv_tableIn (off := 77) (tgt := 78) hx hb dX5_count_1 (by decide) (by decide) (by decide) (by decide) ?_
    exact absurd w1_6 (by decide)
  refine lv_tableOut (tgt := 86) hx hb dX5_count_1 (sw_outN 0 6 (by omega) (by omega)) (by decide) ?_
  exact absurd rfl w1_0
set_option maxHeartbeats 4000000 in
set_option maxRecDepth 100000 in
theorem c_X5_count_1 (l : Launch) (dC : Nat → ClassId) (dI : Nat → Nat → Nat) (cI cJ cS : ClassId) (m0 mw mt ml mz mi mr md mh : Nat) (im : Bool) (tl at0 st0 nu rm rh : Nat) (Bw : Nat → Nat) (hm : mOk Bw) : Met l yX5_count wsX5_count ({ frames := 4, cells := 0, slots := 0, locals := 87 }) (va_Pc [.ref m0, .int (nI 1)] (rB (dC, dI) vwCl [(m0, .inr (5, [.ref mw, .int (bi im), .ref mt, .int (nI tl), .ref ml, .ref mz, .ref mi, .ref mr, .int (nI at0), .int (nI st0), .int (nI nu), .int (nI rm), .int (nI rh), .ref md, .ref mh])), (mw, .inl (cI, 480, .inl (nA Bw)))] (tyz cI cJ cS))) (QcRead (nI (Bw 1))) 0 0 (fun _ => False) := by
  refine Met.ofW (cc := cX5_count) (maxL := 2) (ret := (some .int)) (by decide) rfl ?_
  intro p e s m args below meth c s₁ B hml hv
  obtain ⟨rfl, hP, hKK⟩ := hv
  have hK := hKK.1
  have hx := B.exec
  have hb := B.bytes
  have hr := B.returns
  have hts := atoms_spec (ws := wsX5_count) B.pre
  have hown : s.vm.findClass RX5 = some m.cls := findClass_of_methodNamed B.named
  have hlocks := B.notSynchronized
  have hiX5 : ∀ w ∈ wsX50, w ∈ wsX5_count := by decide +kernel
  have hl := lv_entry ([.ref m0, .int (nI 1)]) (n := 2) (Nat.le_of_ble_eq_true rfl)
  rw [lg_entry_eq]
  generalize (lg_sl ([.ref m0, .int (nI 1)]) ++ List.replicate (2 - (lg_sl ([.ref m0, .int (nI 1)])).length) Slot.unset).toArray = ls at hl ⊢
  have hl : lv_has ls 2 [(0, .ref m0), (1, .int (nI 1))] := hl
  have hn6 := hm.n
  refine lv_iload_n hx hb dX5_count_0 rfl (lv_at hl 1 rfl) ?_
  by_cases w1_0 : 1 = 0
  · refine rn_top w1_0 ?_
    refine lv_tableIn (off := 43) (tgt := 44) hx hb dX5_count_1 (by decide) (by decide) (by decide) (by decide) ?_
    exact absurd w1_0 (by decide)
  by_cases w1_1 : 1 = 1
  · refine rn_top w1_1 ?_
    refine lv_tableIn (off := 50) (tgt := 51) hx hb dX5_count_1 (by decide) (by decide) (by decide) (by decide) ?_
    refine lv_aload_n hx hb dX5_count_51 rfl (lv_at hl 0 rfl) ?_
    refine va_get (D := (dC, dI)) (ci := 5) (v := .ref mw) (C := RX5) (T := TX5) (N := 15) hx hb hts hiX5 hown hK hP 0 rfl rfl 0 (by decide) (hts (.fieldLink RX5 7 "RestRegistersModel" "w" "[I") (by decide +kernel)) (fun _ h9 => h9) rfl dX5_count_52 ?_
    refine lv_iconst (v := (nI 1)) hx hb dX5_count_55 (by decide) ?_
    refine rn_iald hx hb hK hP 1 0 rfl rfl (i := 1) (by omega) (by decide) (v := (nI (Bw 1))) rfl dX5_count_56 ?_
    exact rr_iret hx hb hr hlocks dX5_count_57 (rfl)
  by_cases w1_2 : 1 = 2
  · refine rn_top w1_2 ?_
    refine lv_tableIn (off := 57) (tgt := 58) hx hb dX5_count_1 (by decide) (by decide) (by decide) (by decide) ?_
    exact absurd w1_2 (by decide)
  by_cases w1_3 : 1 = 3
  · refine rn_top w1_3 ?_
    refine lv_tableIn (off := 62) (tgt := 63) hx hb dX5_count_1 (by decide) (by decide) (by decide) (by decide) ?_
    exact absurd w1_3 (by decide)
  by_cases w1_4 : 1 = 4
  · refine rn_top w1_4 ?_
    refine lv_tableIn (off := 67) (tgt := 68) hx hb dX5_count_1 (by decide) (by decide) (by decide) (by decide) ?_
    exact absurd w1_4 (by decide)
  by_cases w1_5 : 1 = 5
  · refine rn_top w1_5 ?_
    refine lv_tableIn (off := 72) (tgt := 73) hx hb dX5_count_1 (by decide) (by decide) (by decide) (by decide) ?_
    exact absurd w1_5 (by decide)
  by_cases w1_6 : 1 = 6
  · refine rn_top w1_6 ?_
    refine lv_tableIn (off := 77) (tgt := 78) hx hb dX5_count_1 (by decide) (by decide) (by decide) (by decide) ?_
    exact absurd w1_6 (by decide)
  refine lv_tableOut (tgt := 86) hx hb dX5_count_1 (sw_outN 0 6 (by omega) (by omega)) (by decide) ?_
  exact absurd rfl w1_1
set_option maxHeartbeats 4000000 in
set_option maxRecDepth 100000 in
theorem c_X5_count_2 (l : Launch) (dC : Nat → ClassId) (dI : Nat → Nat → Nat) (cI cJ cS : ClassId) (m0 mw mt ml mz mi mr md mh : Nat) (im : Bool) (tl at0 st0 nu rm rh : Nat) (Bw : Nat → Nat) (hm : mOk Bw) : Met l yX5_count wsX5_count ({ frames := 4, cells := 0, slots := 0, locals := 87 }) (va_Pc [.ref m0, .int (nI 2)] (rB (dC, dI) vwCl [(m0, .inr (5, [.ref mw, .int (bi im), .ref mt, .int (nI tl), .ref ml, .ref mz, .ref mi, .ref mr, .int (nI at0), .int (nI st0), .int (nI nu), .int (nI rm), .int (nI rh), .ref md, .ref mh])), (mw, .inl (cI, 480, .inl (nA Bw)))] (tyz cI cJ cS))) (QcRead (nI (rgB Bw))) 0 0 (fun _ => False) := by
  refine Met.ofW (cc := cX5_count) (maxL := 2) (ret := (some .int)) (by decide) rfl ?_
  intro p e s m args below meth c s₁ B hml hv
  obtain ⟨rfl, hP, hKK⟩ := hv
  have hK := hKK.1
  have hx := B.exec
  have hb := B.bytes
  have hr := B.returns
  have hts := atoms_spec (ws := wsX5_count) B.pre
  have hown : s.vm.findClass RX5 = some m.cls := findClass_of_methodNamed B.named
  have hlocks := B.notSynchronized
  have hiX5 : ∀ w ∈ wsX50, w ∈ wsX5_count := by decide +kernel
  have hl := lv_entry ([.ref m0, .int (nI 2)]) (n := 2) (Nat.le_of_ble_eq_true rfl)
  rw [lg_entry_eq]
  generalize (lg_sl ([.ref m0, .int (nI 2)]) ++ List.replicate (2 - (lg_sl ([.ref m0, .int (nI 2)])).length) Slot.unset).toArray = ls at hl ⊢
  have hl : lv_has ls 2 [(0, .ref m0), (1, .int (nI 2))] := hl
  have hn6 := hm.n
  refine lv_iload_n hx hb dX5_count_0 rfl (lv_at hl 1 rfl) ?_
  by_cases w1_0 : 2 = 0
  · refine rn_top w1_0 ?_
    refine lv_tableIn (off := 43) (tgt := 44) hx hb dX5_count_1 (by decide) (by decide) (by decide) (by decide) ?_
    exact absurd w1_0 (by decide)
  by_cases w1_1 : 2 = 1
  · refine rn_top w1_1 ?_
    refine lv_tableIn (off := 50) (tgt := 51) hx hb dX5_count_1 (by decide) (by decide) (by decide) (by decide) ?_
    exact absurd w1_1 (by decide)
  by_cases w1_2 : 2 = 2
  · refine rn_top w1_2 ?_
    refine lv_tableIn (off := 57) (tgt := 58) hx hb dX5_count_1 (by decide) (by decide) (by decide) (by decide) ?_
    refine lv_aload_n hx hb dX5_count_58 rfl (lv_at hl 0 rfl) ?_
    refine rr_callR (va_runV (As := []) (rest := []) ⟨hx, hb, hml, hown, hts⟩ (c_X5_range l dC dI cI cJ cS m0 mw mt ml mz mi mr md mh im tl at0 st0 nu rm rh Bw (by first | assumption | omega)) (cwV 0 hts gX5_count_X5_range rfl rfl rfl (by decide +kernel) ⟨Nat.le_of_ble_eq_true rfl, Nat.le_of_ble_eq_true rfl⟩) (rr_preV hKK hP rfl rfl) rfl rfl hl.1 rfl (lv_room (Nat.le_of_ble_eq_true rfl)) dX5_count_59 ⟨Nat.zero_le _, Nat.zero_le _⟩) ?_
    exact rr_iret hx hb hr hlocks dX5_count_62 (rfl)
  by_cases w1_3 : 2 = 3
  · refine rn_top w1_3 ?_
    refine lv_tableIn (off := 62) (tgt := 63) hx hb dX5_count_1 (by decide) (by decide) (by decide) (by decide) ?_
    exact absurd w1_3 (by decide)
  by_cases w1_4 : 2 = 4
  · refine rn_top w1_4 ?_
    refine lv_tableIn (off := 67) (tgt := 68) hx hb dX5_count_1 (by decide) (by decide) (by decide) (by decide) ?_
    exact absurd w1_4 (by decide)
  by_cases w1_5 : 2 = 5
  · refine rn_top w1_5 ?_
    refine lv_tableIn (off := 72) (tgt := 73) hx hb dX5_count_1 (by decide) (by decide) (by decide) (by decide) ?_
    exact absurd w1_5 (by decide)
  by_cases w1_6 : 2 = 6
  · refine rn_top w1_6 ?_
    refine lv_tableIn (off := 77) (tgt := 78) hx hb dX5_count_1 (by decide) (by decide) (by decide) (by decide) ?_
    exact absurd w1_6 (by decide)
  refine lv_tableOut (tgt := 86) hx hb dX5_count_1 (sw_outN 0 6 (by omega) (by omega)) (by decide) ?_
  exact absurd rfl w1_2
set_option maxHeartbeats 4000000 in
set_option maxRecDepth 100000 in
theorem c_X5_count_3 (l : Launch) (dC : Nat → ClassId) (dI : Nat → Nat → Nat) (cI cJ cS : ClassId) (m0 mw mt ml mz mi mr md mh : Nat) (im : Bool) (tl at0 st0 nu rm rh : Nat) (Bw : Nat → Nat) (hm : mOk Bw) : Met l yX5_count wsX5_count ({ frames := 4, cells := 0, slots := 0, locals := 87 }) (va_Pc [.ref m0, .int (nI 3)] (rB (dC, dI) vwCl [(m0, .inr (5, [.ref mw, .int (bi im), .ref mt, .int (nI tl), .ref ml, .ref mz, .ref mi, .ref mr, .int (nI at0), .int (nI st0), .int (nI nu), .int (nI rm), .int (nI rh), .ref md, .ref mh])), (mw, .inl (cI, 480, .inl (nA Bw)))] (tyz cI cJ cS))) (QcRead (nI (spB Bw))) 0 0 (fun _ => False) := by
  refine Met.ofW (cc := cX5_count) (maxL := 2) (ret := (some .int)) (by decide) rfl ?_
  intro p e s m args below meth c s₁ B hml hv
  obtain ⟨rfl, hP, hKK⟩ := hv
  have hK := hKK.1
  have hx := B.exec
  have hb := B.bytes
  have hr := B.returns
  have hts := atoms_spec (ws := wsX5_count) B.pre
  have hown : s.vm.findClass RX5 = some m.cls := findClass_of_methodNamed B.named
  have hlocks := B.notSynchronized
  have hiX5 : ∀ w ∈ wsX50, w ∈ wsX5_count := by decide +kernel
  have hl := lv_entry ([.ref m0, .int (nI 3)]) (n := 2) (Nat.le_of_ble_eq_true rfl)
  rw [lg_entry_eq]
  generalize (lg_sl ([.ref m0, .int (nI 3)]) ++ List.replicate (2 - (lg_sl ([.ref m0, .int (nI 3)])).length) Slot.unset).toArray = ls at hl ⊢
  have hl : lv_has ls 2 [(0, .ref m0), (1, .int (nI 3))] := hl
  have hn6 := hm.n
  refine lv_iload_n hx hb dX5_count_0 rfl (lv_at hl 1 rfl) ?_
  by_cases w1_0 : 3 = 0
  · refine rn_top w1_0 ?_
    refine lv_tableIn (off := 43) (tgt := 44) hx hb dX5_count_1 (by decide) (by decide) (by decide) (by decide) ?_
    exact absurd w1_0 (by decide)
  by_cases w1_1 : 3 = 1
  · refine rn_top w1_1 ?_
    refine lv_tableIn (off := 50) (tgt := 51) hx hb dX5_count_1 (by decide) (by decide) (by decide) (by decide) ?_
    exact absurd w1_1 (by decide)
  by_cases w1_2 : 3 = 2
  · refine rn_top w1_2 ?_
    refine lv_tableIn (off := 57) (tgt := 58) hx hb dX5_count_1 (by decide) (by decide) (by decide) (by decide) ?_
    exact absurd w1_2 (by decide)
  by_cases w1_3 : 3 = 3
  · refine rn_top w1_3 ?_
    refine lv_tableIn (off := 62) (tgt := 63) hx hb dX5_count_1 (by decide) (by decide) (by decide) (by decide) ?_
    refine lv_aload_n hx hb dX5_count_63 rfl (lv_at hl 0 rfl) ?_
    refine rr_callR (va_runV (As := []) (rest := []) ⟨hx, hb, hml, hown, hts⟩ (c_X5_span l dC dI cI cJ cS m0 mw mt ml mz mi mr md mh im tl at0 st0 nu rm rh Bw (by first | assumption | omega)) (cwV 0 hts gX5_count_X5_span rfl rfl rfl (by decide +kernel) ⟨Nat.le_of_ble_eq_true rfl, Nat.le_of_ble_eq_true rfl⟩) (rr_preV hKK hP rfl rfl) rfl rfl hl.1 rfl (lv_room (Nat.le_of_ble_eq_true rfl)) dX5_count_64 ⟨Nat.zero_le _, Nat.zero_le _⟩) ?_
    exact rr_iret hx hb hr hlocks dX5_count_67 (rfl)
  by_cases w1_4 : 3 = 4
  · refine rn_top w1_4 ?_
    refine lv_tableIn (off := 67) (tgt := 68) hx hb dX5_count_1 (by decide) (by decide) (by decide) (by decide) ?_
    exact absurd w1_4 (by decide)
  by_cases w1_5 : 3 = 5
  · refine rn_top w1_5 ?_
    refine lv_tableIn (off := 72) (tgt := 73) hx hb dX5_count_1 (by decide) (by decide) (by decide) (by decide) ?_
    exact absurd w1_5 (by decide)
  by_cases w1_6 : 3 = 6
  · refine rn_top w1_6 ?_
    refine lv_tableIn (off := 77) (tgt := 78) hx hb dX5_count_1 (by decide) (by decide) (by decide) (by decide) ?_
    exact absurd w1_6 (by decide)
  refine lv_tableOut (tgt := 86) hx hb dX5_count_1 (sw_outN 0 6 (by omega) (by omega)) (by decide) ?_
  exact absurd rfl w1_3
set_option maxHeartbeats 4000000 in
set_option maxRecDepth 100000 in
theorem c_X5_count_4 (l : Launch) (dC : Nat → ClassId) (dI : Nat → Nat → Nat) (cI cJ cS : ClassId) (sz : Nat) (m0 mw mt ml mz mi mr md mh : Nat) (im : Bool) (tl at0 st0 nu rm rh : Nat) (Bw Rs : Nat → Nat) (hm : mOk Bw) : Met l yX5_count wsX5_count ({ frames := 4, cells := 0, slots := 0, locals := 87 }) (va_Pc [.ref m0, .int (nI 4)] (rW (dC, dI) vwCl [(m0, .inr (5, [.ref mw, .int (bi im), .ref mt, .int (nI tl), .ref ml, .ref mz, .ref mi, .ref mr, .int (nI at0), .int (nI st0), .int (nI nu), .int (nI rm), .int (nI rh), .ref md, .ref mh])), (mw, .inl (cI, 480, .inl (nA Bw))), (mr, .inl (cI, 6, .inl (nA Rs)))] (tyz cI cJ cS) sz)) (qI (nI (orS (fun r => decide (VB Bw r < rgB Bw)) 4)) (dC, dI) vwCl [(m0, .inr (5, [.ref mw, .int (bi im), .ref mt, .int (nI tl), .ref ml, .ref mz, .ref mi, .ref mr, .int (nI at0), .int (nI st0), .int (nI nu), .int (nI rm), .int (nI rh), .ref md, .ref mh])), (mw, .inl (cI, 480, .inl (nA Bw))), (mr, .inl (cI, 6, .inl (nA (lkN Bw 3 6 (lkN Bw 2 6 (lkN Bw 1 6 (lkN Bw 0 6 Rs)))))))] (va_A [(m0, .inr (5, [.ref mw, .int (bi im), .ref mt, .int (nI tl), .ref ml, .ref mz, .ref mi, .ref mr, .int (nI at0), .int (nI st0), .int (nI nu), .int (nI rm), .int (nI rh), .ref md, .ref mh])), (mw, .inl (cI, 480, .inl (nA Bw))), (mr, .inl (cI, 6, .inl (nA Rs)))] sz)) 0 0 (va_A [(m0, .inr (5, [.ref mw, .int (bi im), .ref mt, .int (nI tl), .ref ml, .ref mz, .ref mi, .ref mr, .int (nI at0), .int (nI st0), .int (nI nu), .int (nI rm), .int (nI rh), .ref md, .ref mh])), (mw, .inl (cI, 480, .inl (nA Bw))), (mr, .inl (cI, 6, .inl (nA Rs)))] sz) := by
  refine Met.ofW (cc := cX5_count) (maxL := 2) (ret := (some .int)) (by decide) rfl ?_
  intro p e s m args below meth c s₁ B hml hv
  obtain ⟨rfl, hsz, hP, hKK, hD0⟩ := hv
  have hK := hKK.1
  have hx := B.exec
  have hb := B.bytes
  have hr := B.returns
  have hts := atoms_spec (ws := wsX5_count) B.pre
  have hown : s.vm.findClass RX5 = some m.cls := findClass_of_methodNamed B.named
  have hlocks := B.notSynchronized
  subst hsz
  have hD := hD0.self (sz := s.heap.size)
  generalize hAe : va_A [(m0, .inr (5, [.ref mw, .int (bi im), .ref mt, .int (nI tl), .ref ml, .ref mz, .ref mi, .ref mr, .int (nI at0), .int (nI st0), .int (nI nu), .int (nI rm), .int (nI rh), .ref md, .ref mh])), (mw, .inl (cI, 480, .inl (nA Bw))), (mr, .inl (cI, 6, .inl (nA Rs)))] s.heap.size = A at hD ⊢
  have hA : ∀ q : Nat, s.heap.size ≤ q → A q := fun q h => by rw [← hAe]; exact Or.inr h
  have hS : va_S A s.heap s.heap [] := va_S.rf
  have hP : va_P (dC, dI) vwCl [(m0, .inr (5, [.ref mw, .int (bi im), .ref mt, .int (nI tl), .ref ml, .ref mz, .ref mi, .ref mr, .int (nI at0), .int (nI st0), .int (nI nu), .int (nI rm), .int (nI rh), .ref md, .ref mh])), (mw, .inl (cI, 480, .inl (nA Bw))), (mr, .inl (cI, 6, .inl (nA Rs)))] s.heap := hP
  have hiX5 : ∀ w ∈ wsX50, w ∈ wsX5_count := by decide +kernel
  have hl := lv_entry ([.ref m0, .int (nI 4)]) (n := 2) (Nat.le_of_ble_eq_true rfl)
  rw [lg_entry_eq]
  generalize (lg_sl ([.ref m0, .int (nI 4)]) ++ List.replicate (2 - (lg_sl ([.ref m0, .int (nI 4)])).length) Slot.unset).toArray = ls at hl ⊢
  have hl : lv_has ls 2 [(0, .ref m0), (1, .int (nI 4))] := hl
  have hn6 := hm.n
  refine lv_iload_n hx hb dX5_count_0 rfl (lv_at hl 1 rfl) ?_
  by_cases w1_0 : 4 = 0
  · refine rn_top w1_0 ?_
    refine lv_tableIn (off := 43) (tgt := 44) hx hb dX5_count_1 (by decide) (by decide) (by decide) (by decide) ?_
    exact absurd w1_0 (by decide)
  by_cases w1_1 : 4 = 1
  · refine rn_top w1_1 ?_
    refine lv_tableIn (off := 50) (tgt := 51) hx hb dX5_count_1 (by decide) (by decide) (by decide) (by decide) ?_
    exact absurd w1_1 (by decide)
  by_cases w1_2 : 4 = 2
  · refine rn_top w1_2 ?_
    refine lv_tableIn (off := 57) (tgt := 58) hx hb dX5_count_1 (by decide) (by decide) (by decide) (by decide) ?_
    exact absurd w1_2 (by decide)
  by_cases w1_3 : 4 = 3
  · refine rn_top w1_3 ?_
    refine lv_tableIn (off := 62) (tgt := 63) hx hb dX5_count_1 (by decide) (by decide) (by decide) (by decide) ?_
    exact absurd w1_3 (by decide)
  by_cases w1_4 : 4 = 4
  · refine rn_top w1_4 ?_
    refine lv_tableIn (off := 67) (tgt := 68) hx hb dX5_count_1 (by decide) (by decide) (by decide) (by decide) ?_
    refine lv_aload_n hx hb dX5_count_68 rfl (lv_at hl 0 rfl) ?_
    refine rw_calli (va_runV (As := []) (rest := []) ⟨hx, hb, hml, hown, hts⟩ (c_X5_legals l dC dI cI cJ cS _ m0 mw mt ml mz mi mr md mh im tl at0 st0 nu rm rh Bw Rs (by first | assumption | omega)) (cwV 0 hts gX5_count_X5_legals rfl rfl rfl (by decide +kernel) ⟨Nat.le_of_ble_eq_true rfl, Nat.le_of_ble_eq_true rfl⟩) (rw_preV hKK hP hD rfl rfl) rfl rfl hl.1 rfl (lv_room (Nat.le_of_ble_eq_true rfl)) dX5_count_69 ⟨Nat.zero_le _, Nat.zero_le _⟩) (wr := []) hP hD hS hA [0, 1, 2] [] rfl rfl (by decide) (by decide) (fun H locs hP hD hS => ?_)
    have hP : va_P (dC, dI) vwCl [(m0, .inr (5, [.ref mw, .int (bi im), .ref mt, .int (nI tl), .ref ml, .ref mz, .ref mi, .ref mr, .int (nI at0), .int (nI st0), .int (nI nu), .int (nI rm), .int (nI rh), .ref md, .ref mh])), (mw, .inl (cI, 480, .inl (nA Bw))), (mr, .inl (cI, 6, .inl (nA (lkN Bw 3 6 (lkN Bw 2 6 (lkN Bw 1 6 (lkN Bw 0 6 Rs)))))))] H := hP.sub [0, 1, 2] rfl
    have hD : va_D A [(m0, .inr (5, [.ref mw, .int (bi im), .ref mt, .int (nI tl), .ref ml, .ref mz, .ref mi, .ref mr, .int (nI at0), .int (nI st0), .int (nI nu), .int (nI rm), .int (nI rh), .ref md, .ref mh])), (mw, .inl (cI, 480, .inl (nA Bw))), (mr, .inl (cI, 6, .inl (nA (lkN Bw 3 6 (lkN Bw 2 6 (lkN Bw 1 6 (lkN Bw 0 6 Rs)))))))] := hD.sub [0, 1, 2] (by decide) rfl
    exact rr_iretW hx hb hr hlocks dX5_count_72 hP hD hS (rfl)
  by_cases w1_5 : 4 = 5
  · refine rn_top w1_5 ?_
    refine lv_tableIn (off := 72) (tgt := 73) hx hb dX5_count_1 (by decide) (by decide) (by decide) (by decide) ?_
    exact absurd w1_5 (by decide)
  by_cases w1_6 : 4 = 6
  · refine rn_top w1_6 ?_
    refine lv_tableIn (off := 77) (tgt := 78) hx hb dX5_count_1 (by decide) (by decide) (by decide) (by decide) ?_
    exact absurd w1_6 (by decide)
  refine lv_tableOut (tgt := 86) hx hb dX5_count_1 (sw_outN 0 6 (by omega) (by omega)) (by decide) ?_
  exact absurd rfl w1_4
set_option maxHeartbeats 4000000 in
set_option maxRecDepth 100000 in
theorem c_X5_count_5 (l : Launch) (dC : Nat → ClassId) (dI : Nat → Nat → Nat) (cI cJ cS : ClassId) (m0 mw mt ml mz mi mr md mh : Nat) (im : Bool) (tl at0 st0 nu rm rh : Nat) (Bw : Nat → Nat) (hm : mOk Bw) : Met l yX5_count wsX5_count ({ frames := 4, cells := 0, slots := 0, locals := 87 }) (va_Pc [.ref m0, .int (nI 5)] (rB (dC, dI) vwCl [(m0, .inr (5, [.ref mw, .int (bi im), .ref mt, .int (nI tl), .ref ml, .ref mz, .ref mi, .ref mr, .int (nI at0), .int (nI st0), .int (nI nu), .int (nI rm), .int (nI rh), .ref md, .ref mh])), (mw, .inl (cI, 480, .inl (nA Bw)))] (tyz cI cJ cS))) (QcRead (nI (orS (fun j => decide (kdB Bw j = 0)) (Bw 0)))) 0 0 (fun _ => False) := by
  refine Met.ofW (cc := cX5_count) (maxL := 2) (ret := (some .int)) (by decide) rfl ?_
  intro p e s m args below meth c s₁ B hml hv
  obtain ⟨rfl, hP, hKK⟩ := hv
  have hK := hKK.1
  have hx := B.exec
  have hb := B.bytes
  have hr := B.returns
  have hts := atoms_spec (ws := wsX5_count) B.pre
  have hown : s.vm.findClass RX5 = some m.cls := findClass_of_methodNamed B.named
  have hlocks := B.notSynchronized
  have hiX5 : ∀ w ∈ wsX50, w ∈ wsX5_count := by decide +kernel
  have hl := lv_entry ([.ref m0, .int (nI 5)]) (n := 2) (Nat.le_of_ble_eq_true rfl)
  rw [lg_entry_eq]
  generalize (lg_sl ([.ref m0, .int (nI 5)]) ++ List.replicate (2 - (lg_sl ([.ref m0, .int (nI 5)])).length) Slot.unset).toArray = ls at hl ⊢
  have hl : lv_has ls 2 [(0, .ref m0), (1, .int (nI 5))] := hl
  have hn6 := hm.n
  refine lv_iload_n hx hb dX5_count_0 rfl (lv_at hl 1 rfl) ?_
  by_cases w1_0 : 5 = 0
  · refine rn_top w1_0 ?_
    refine lv_tableIn (off := 43) (tgt := 44) hx hb dX5_count_1 (by decide) (by decide) (by decide) (by decide) ?_
    exact absurd w1_0 (by decide)
  by_cases w1_1 : 5 = 1
  · refine rn_top w1_1 ?_
    refine lv_tableIn (off := 50) (tgt := 51) hx hb dX5_count_1 (by decide) (by decide) (by decide) (by decide) ?_
    exact absurd w1_1 (by decide)
  by_cases w1_2 : 5 = 2
  · refine rn_top w1_2 ?_
    refine lv_tableIn (off := 57) (tgt := 58) hx hb dX5_count_1 (by decide) (by decide) (by decide) (by decide) ?_
    exact absurd w1_2 (by decide)
  by_cases w1_3 : 5 = 3
  · refine rn_top w1_3 ?_
    refine lv_tableIn (off := 62) (tgt := 63) hx hb dX5_count_1 (by decide) (by decide) (by decide) (by decide) ?_
    exact absurd w1_3 (by decide)
  by_cases w1_4 : 5 = 4
  · refine rn_top w1_4 ?_
    refine lv_tableIn (off := 67) (tgt := 68) hx hb dX5_count_1 (by decide) (by decide) (by decide) (by decide) ?_
    exact absurd w1_4 (by decide)
  by_cases w1_5 : 5 = 5
  · refine rn_top w1_5 ?_
    refine lv_tableIn (off := 72) (tgt := 73) hx hb dX5_count_1 (by decide) (by decide) (by decide) (by decide) ?_
    refine lv_aload_n hx hb dX5_count_73 rfl (lv_at hl 0 rfl) ?_
    refine rr_callR (va_runV (As := []) (rest := []) ⟨hx, hb, hml, hown, hts⟩ (c_X5_plains l dC dI cI cJ cS m0 mw mt ml mz mi mr md mh im tl at0 st0 nu rm rh Bw (by first | assumption | omega)) (cwV 0 hts gX5_count_X5_plains rfl rfl rfl (by decide +kernel) ⟨Nat.le_of_ble_eq_true rfl, Nat.le_of_ble_eq_true rfl⟩) (rr_preV hKK hP rfl rfl) rfl rfl hl.1 rfl (lv_room (Nat.le_of_ble_eq_true rfl)) dX5_count_74 ⟨Nat.zero_le _, Nat.zero_le _⟩) ?_
    exact rr_iret hx hb hr hlocks dX5_count_77 (rfl)
  by_cases w1_6 : 5 = 6
  · refine rn_top w1_6 ?_
    refine lv_tableIn (off := 77) (tgt := 78) hx hb dX5_count_1 (by decide) (by decide) (by decide) (by decide) ?_
    exact absurd w1_6 (by decide)
  refine lv_tableOut (tgt := 86) hx hb dX5_count_1 (sw_outN 0 6 (by omega) (by omega)) (by decide) ?_
  exact absurd rfl w1_5
set_option maxHeartbeats 4000000 in
set_option maxRecDepth 100000 in
theorem c_X5_count_6 (l : Launch) (dC : Nat → ClassId) (dI : Nat → Nat → Nat) (cI cJ cS : ClassId) (m0 mw mt ml mz mi mr md mh : Nat) (im : Bool) (tl at0 st0 nu rm rh : Nat) (Bw : Nat → Nat) (hm : mOk Bw) : Met l yX5_count wsX5_count ({ frames := 4, cells := 0, slots := 0, locals := 87 }) (va_Pc [.ref m0, .int (nI 6)] (rB (dC, dI) vwCl [(m0, .inr (5, [.ref mw, .int (bi im), .ref mt, .int (nI tl), .ref ml, .ref mz, .ref mi, .ref mr, .int (nI at0), .int (nI st0), .int (nI nu), .int (nI rm), .int (nI rh), .ref md, .ref mh])), (mw, .inl (cI, 480, .inl (nA Bw)))] (tyz cI cJ cS))) (QcRead (nI (Bw 39))) 0 0 (fun _ => False) := by
  refine Met.ofW (cc := cX5_count) (maxL := 2) (ret := (some .int)) (by decide) rfl ?_
  intro p e s m args below meth c s₁ B hml hv
  obtain ⟨rfl, hP, hKK⟩ := hv
  have hK := hKK.1
  have hx := B.exec
  have hb := B.bytes
  have hr := B.returns
  have hts := atoms_spec (ws := wsX5_count) B.pre
  have hown : s.vm.findClass RX5 = some m.cls := findClass_of_methodNamed B.named
  have hlocks := B.notSynchronized
  have hiX5 : ∀ w ∈ wsX50, w ∈ wsX5_count := by decide +kernel
  have hl := lv_entry ([.ref m0, .int (nI 6)]) (n := 2) (Nat.le_of_ble_eq_true rfl)
  rw [lg_entry_eq]
  generalize (lg_sl ([.ref m0, .int (nI 6)]) ++ List.replicate (2 - (lg_sl ([.ref m0, .int (nI 6)])).length) Slot.unset).toArray = ls at hl ⊢
  have hl : lv_has ls 2 [(0, .ref m0), (1, .int (nI 6))] := hl
  have hn6 := hm.n
  refine lv_iload_n hx hb dX5_count_0 rfl (lv_at hl 1 rfl) ?_
  by_cases w1_0 : 6 = 0
  · refine rn_top w1_0 ?_
    refine lv_tableIn (off := 43) (tgt := 44) hx hb dX5_count_1 (by decide) (by decide) (by decide) (by decide) ?_
    exact absurd w1_0 (by decide)
  by_cases w1_1 : 6 = 1
  · refine rn_top w1_1 ?_
    refine lv_tableIn (off := 50) (tgt := 51) hx hb dX5_count_1 (by decide) (by decide) (by decide) (by decide) ?_
    exact absurd w1_1 (by decide)
  by_cases w1_2 : 6 = 2
  · refine rn_top w1_2 ?_
    refine lv_tableIn (off := 57) (tgt := 58) hx hb dX5_count_1 (by decide) (by decide) (by decide) (by decide) ?_
    exact absurd w1_2 (by decide)
  by_cases w1_3 : 6 = 3
  · refine rn_top w1_3 ?_
    refine lv_tableIn (off := 62) (tgt := 63) hx hb dX5_count_1 (by decide) (by decide) (by decide) (by decide) ?_
    exact absurd w1_3 (by decide)
  by_cases w1_4 : 6 = 4
  · refine rn_top w1_4 ?_
    refine lv_tableIn (off := 67) (tgt := 68) hx hb dX5_count_1 (by decide) (by decide) (by decide) (by decide) ?_
    exact absurd w1_4 (by decide)
  by_cases w1_5 : 6 = 5
  · refine rn_top w1_5 ?_
    refine lv_tableIn (off := 72) (tgt := 73) hx hb dX5_count_1 (by decide) (by decide) (by decide) (by decide) ?_
    exact absurd w1_5 (by decide)
  by_cases w1_6 : 6 = 6
  · refine rn_top w1_6 ?_
    refine lv_tableIn (off := 77) (tgt := 78) hx hb dX5_count_1 (by decide) (by decide) (by decide) (by decide) ?_
    refine lv_aload_n hx hb dX5_count_78 rfl (lv_at hl 0 rfl) ?_
    refine va_get (D := (dC, dI)) (ci := 5) (v := .ref mw) (C := RX5) (T := TX5) (N := 15) hx hb hts hiX5 hown hK hP 0 rfl rfl 0 (by decide) (hts (.fieldLink RX5 7 "RestRegistersModel" "w" "[I") (by decide +kernel)) (fun _ h9 => h9) rfl dX5_count_79 ?_
    refine lv_bipush (v := (nI 39)) hx hb dX5_count_82 (by decide) ?_
    refine rn_iald hx hb hK hP 1 0 rfl rfl (i := 39) (by omega) (by decide) (v := (nI (Bw 39))) rfl dX5_count_84 ?_
    exact rr_iret hx hb hr hlocks dX5_count_85 (rfl)
  refine lv_tableOut (tgt := 86) hx hb dX5_count_1 (sw_outN 0 6 (by omega) (by omega)) (by decide) ?_
  exact absurd rfl w1_6
set_option maxHeartbeats 4000000 in
set_option maxRecDepth 100000 in
theorem c_X5_count_b (l : Launch) (dC : Nat → ClassId) (dI : Nat → Nat → Nat) (cI cJ cS : ClassId) (m0 mw mt ml mz mi mr md mh : Nat) (im : Bool) (tl at0 st0 nu rm rh : Nat) (Bw : Nat → Nat) (y : Int32) (hm : mOk Bw) (hbad : (inb y 7) = false) : Met l yX5_count wsX5_count ({ frames := 4, cells := 0, slots := 0, locals := 87 }) (va_Pc [.ref m0, .int y] (rB (dC, dI) vwCl [(m0, .inr (5, [.ref mw, .int (bi im), .ref mt, .int (nI tl), .ref ml, .ref mz, .ref mi, .ref mr, .int (nI at0), .int (nI st0), .int (nI nu), .int (nI rm), .int (nI rh), .ref md, .ref mh])), (mw, .inl (cI, 480, .inl (nA Bw)))] (tyz cI cJ cS))) (QcRead (-1)) 0 0 (fun _ => False) := by
  refine Met.ofW (cc := cX5_count) (maxL := 2) (ret := (some .int)) (by decide) rfl ?_
  intro p e s m args below meth c s₁ B hml hv
  obtain ⟨rfl, hP, hKK⟩ := hv
  have hK := hKK.1
  have hx := B.exec
  have hb := B.bytes
  have hr := B.returns
  have hts := atoms_spec (ws := wsX5_count) B.pre
  have hown : s.vm.findClass RX5 = some m.cls := findClass_of_methodNamed B.named
  have hlocks := B.notSynchronized
  have hiX5 : ∀ w ∈ wsX50, w ∈ wsX5_count := by decide +kernel
  have hl := lv_entry ([.ref m0, .int y]) (n := 2) (Nat.le_of_ble_eq_true rfl)
  rw [lg_entry_eq]
  generalize (lg_sl ([.ref m0, .int y]) ++ List.replicate (2 - (lg_sl ([.ref m0, .int y])).length) Slot.unset).toArray = ls at hl ⊢
  have hl : lv_has ls 2 [(0, .ref m0), (1, .int y)] := hl
  have hn6 := hm.n
  refine lv_iload_n hx hb dX5_count_0 rfl (lv_at hl 1 rfl) ?_
  by_cases w1_0 : y = nI 0
  · refine rr_top w1_0 ?_
    refine lv_tableIn (off := 43) (tgt := 44) hx hb dX5_count_1 (by decide) (by decide) (by decide) (by decide) ?_
    exact absurd hbad (by rw [w1_0]; decide)
  by_cases w1_1 : y = nI 1
  · refine rr_top w1_1 ?_
    refine lv_tableIn (off := 50) (tgt := 51) hx hb dX5_count_1 (by decide) (by decide) (by decide) (by decide) ?_
    exact absurd hbad (by rw [w1_1]; decide)
  by_cases w1_2 : y = nI 2
  · refine rr_top w1_2 ?_
    refine lv_tableIn (off := 57) (tgt := 58) hx hb dX5_count_1 (by decide) (by decide) (by decide) (by decide) ?_
    exact absurd hbad (by rw [w1_2]; decide)
  by_cases w1_3 : y = nI 3
  · refine rr_top w1_3 ?_
    refine lv_tableIn (off := 62) (tgt := 63) hx hb dX5_count_1 (by decide) (by decide) (by decide) (by decide) ?_
    exact absurd hbad (by rw [w1_3]; decide)
  by_cases w1_4 : y = nI 4
  · refine rr_top w1_4 ?_
    refine lv_tableIn (off := 67) (tgt := 68) hx hb dX5_count_1 (by decide) (by decide) (by decide) (by decide) ?_
    exact absurd hbad (by rw [w1_4]; decide)
  by_cases w1_5 : y = nI 5
  · refine rr_top w1_5 ?_
    refine lv_tableIn (off := 72) (tgt := 73) hx hb dX5_count_1 (by decide) (by decide) (by decide) (by decide) ?_
    exact absurd hbad (by rw [w1_5]; decide)
  by_cases w1_6 : y = nI 6
  · refine rr_top w1_6 ?_
    refine lv_tableIn (off := 77) (tgt := 78) hx hb dX5_count_1 (by decide) (by decide) (by decide) (by decide) ?_
    exact absurd hbad (by rw [w1_6]; decide)
  refine lv_tableOut (tgt := 86) hx hb dX5_count_1 (sw_out 0 6 (fun k h1 h2 => by rcases (show k = 0 ∨ k = 1 ∨ k = 2 ∨ k = 3 ∨ k = 4 ∨ k = 5 ∨ k = 6 by omega) with rfl | rfl | rfl | rfl | rfl | rfl | rfl <;> assumption)) (by decide) ?_
  refine lv_iconst (v := (-1)) hx hb dX5_count_86 (by decide) ?_
  exact rr_iret hx hb hr hlocks dX5_count_87 (rfl)
set_option maxHeartbeats 4000000 in
set_option maxRecDepth 100000 in
theorem c_X5_minds_8 (l : Launch) (dC : Nat → ClassId) (dI : Nat → Nat → Nat) (cI cJ cS : ClassId) (sz : Nat) (m0 mw mt ml mz mi mr md mh : Nat) (im : Bool) (tl at0 st0 nu rm rh : Nat) (Bw : Nat → Nat) (h8 : Bw 39 = 8) : Met l yX5_minds wsX5_minds ({ frames := 0, cells := 0, slots := 0, locals := 0 }) (va_Pc [.ref m0] (rW (dC, dI) vwCl [(m0, .inr (5, [.ref mw, .int (bi im), .ref mt, .int (nI tl), .ref ml, .ref mz, .ref mi, .ref mr, .int (nI at0), .int (nI st0), .int (nI nu), .int (nI rm), .int (nI rh), .ref md, .ref mh])), (mw, .inl (cI, 480, .inl (nA Bw)))] (tyz cI cJ cS) sz)) (qV (dC, dI) vwCl [(m0, .inr (5, [.ref mw, .int (bi im), .ref mt, .int (nI tl), .ref ml, .ref mz, .ref mi, .ref mr, .int (nI at0), .int (nI st0), .int (nI nu), .int (nI rm), .int (nI rh), .ref md, .ref mh])), (mw, .inl (cI, 480, .inl (nA (mdB Bw))))] (va_A [(m0, .inr (5, [.ref mw, .int (bi im), .ref mt, .int (nI tl), .ref ml, .ref mz, .ref mi, .ref mr, .int (nI at0), .int (nI st0), .int (nI nu), .int (nI rm), .int (nI rh), .ref md, .ref mh])), (mw, .inl (cI, 480, .inl (nA Bw)))] sz)) 0 0 (va_A [(m0, .inr (5, [.ref mw, .int (bi im), .ref mt, .int (nI tl), .ref ml, .ref mz, .ref mi, .ref mr, .int (nI at0), .int (nI st0), .int (nI nu), .int (nI rm), .int (nI rh), .ref md, .ref mh])), (mw, .inl (cI, 480, .inl (nA Bw)))] sz) := by
  refine Met.ofW (cc := cX5_minds) (maxL := 2) (ret := none) (by decide) rfl ?_
  intro p e s m args below meth c s₁ B hml hv
  obtain ⟨rfl, hsz, hP, hKK, hD0⟩ := hv
  have hK := hKK.1
  have hx := B.exec
  have hb := B.bytes
  have hr := B.returns
  have hts := atoms_spec (ws := wsX5_minds) B.pre
  have hown : s.vm.findClass RX5 = some m.cls := findClass_of_methodNamed B.named
  have hlocks := B.notSynchronized
  subst hsz
  have hD := hD0.self (sz := s.heap.size)
  generalize hAe : va_A [(m0, .inr (5, [.ref mw, .int (bi im), .ref mt, .int (nI tl), .ref ml, .ref mz, .ref mi, .ref mr, .int (nI at0), .int (nI st0), .int (nI nu), .int (nI rm), .int (nI rh), .ref md, .ref mh])), (mw, .inl (cI, 480, .inl (nA Bw)))] s.heap.size = A at hD ⊢
  have hA : ∀ q : Nat, s.heap.size ≤ q → A q := fun q h => by rw [← hAe]; exact Or.inr h
  have hS : va_S A s.heap s.heap [] := va_S.rf
  have hP : va_P (dC, dI) vwCl [(m0, .inr (5, [.ref mw, .int (bi im), .ref mt, .int (nI tl), .ref ml, .ref mz, .ref mi, .ref mr, .int (nI at0), .int (nI st0), .int (nI nu), .int (nI rm), .int (nI rh), .ref md, .ref mh])), (mw, .inl (cI, 480, .inl (nA Bw)))] s.heap := hP
  have hiX5 : ∀ w ∈ wsX50, w ∈ wsX5_minds := by decide +kernel
  have hl := lv_entry ([.ref m0]) (n := 2) (Nat.le_of_ble_eq_true rfl)
  rw [lg_entry_eq]
  generalize (lg_sl ([.ref m0]) ++ List.replicate (2 - (lg_sl ([.ref m0])).length) Slot.unset).toArray = ls at hl ⊢
  have hl : lv_has ls 2 [(0, .ref m0)] := hl
  refine lv_aload_n hx hb dX5_minds_0 rfl (lv_at hl 0 rfl) ?_
  refine va_get (D := (dC, dI)) (ci := 5) (v := .ref mw) (C := RX5) (T := TX5) (N := 15) hx hb hts hiX5 hown hK hP 0 rfl rfl 0 (by decide) (hts (.fieldLink RX5 7 "RestRegistersModel" "w" "[I") (by decide +kernel)) (fun _ h9 => h9) rfl dX5_minds_1 ?_
  refine lv_bipush (v := (nI 39)) hx hb dX5_minds_4 (by decide) ?_
  refine rn_iald hx hb hK hP 1 0 rfl rfl (i := 39) (by omega) (by decide) (v := (nI (Bw 39))) rfl dX5_minds_6 ?_
  refine lv_bipush (v := (nI 8)) hx hb dX5_minds_7 (by decide) ?_
  refine rn_icmp_ne (tgt := 59) hx hb dX5_minds_9 (by decide) (by omega) (by omega) (fun c9 => ?_) (fun c9 => ?_)
  · skip
    exact absurd h8 c9
  refine lv_iconst (v := (nI 0)) hx hb dX5_minds_12 (by decide) ?_
  refine lv_istore_n (lv' := [(1, .int (nI 0)), (0, .ref m0)]) hx hb dX5_minds_13 rfl hl (by decide) rfl (fun ls hl => ?_)
  have ec : nA Bw = nA (cpN Bw Bw 65 40 0) := cpN_0 _ _ _ _
  rw [ec] at hP hD
  have hP : va_P (dC, dI) vwCl [(m0, .inr (5, [.ref mw, .int (bi im), .ref mt, .int (nI tl), .ref ml, .ref mz, .ref mi, .ref mr, .int (nI at0), .int (nI st0), .int (nI nu), .int (nI rm), .int (nI rh), .ref md, .ref mh])), (mw, .inl (cI, 480, .inl (nA (cpN Bw Bw 65 40 0))))] s.heap := hP
  have hD : va_D A [(m0, .inr (5, [.ref mw, .int (bi im), .ref mt, .int (nI tl), .ref ml, .ref mz, .ref mi, .ref mr, .int (nI at0), .int (nI st0), .int (nI nu), .int (nI rm), .int (nI rh), .ref md, .ref mh])), (mw, .inl (cI, 480, .inl (nA (cpN Bw Bw 65 40 0))))] := hD
  refine rlW1 (A1 := Nat) (fun H locs ls => W p l e _ s m _ below meth c H locs 0 0 _ (F0 m 14 ls [])) (fun k H locs ls => k ≤ 175 ∧ va_P (dC, dI) vwCl [(m0, .inr (5, [.ref mw, .int (bi im), .ref mt, .int (nI tl), .ref ml, .ref mz, .ref mi, .ref mr, .int (nI at0), .int (nI st0), .int (nI nu), .int (nI rm), .int (nI rh), .ref md, .ref mh])), (mw, .inl (cI, 480, .inl (nA (cpN Bw Bw 65 40 k))))] H ∧ va_D A [(m0, .inr (5, [.ref mw, .int (bi im), .ref mt, .int (nI tl), .ref ml, .ref mz, .ref mi, .ref mr, .int (nI at0), .int (nI st0), .int (nI nu), .int (nI rm), .int (nI rh), .ref md, .ref mh])), (mw, .inl (cI, 480, .inl (nA (cpN Bw Bw 65 40 k))))] ∧ va_S A s.heap H locs ∧ lv_has ls 2 [(1, .int (nI k)), (0, .ref m0)]) (fun k => 175 - k) ?_ 0 _ _ ls ⟨by omega, hP, hD, hS, lv_sub hl [0, 1] rfl⟩
  rintro k H locs ls ⟨hk2, hP, hD, hS, hl⟩ ih14
  refine lv_iload_n hx hb dX5_minds_14 rfl (lv_at hl 0 rfl) ?_
  refine lv_sipush (v := (nI 175)) hx hb dX5_minds_15 (by decide) ?_
  refine rn_icmp_ge (tgt := 48) hx hb dX5_minds_18 (by decide) (by omega) (by omega) (fun c18 => ?_) (fun c18 => ?_)
  · skip
    have ek : k = 175 := Nat.le_antisymm hk2 c18
    subst ek
    refine lv_aload_n hx hb dX5_minds_48 rfl (lv_at hl 1 rfl) ?_
    refine va_get (D := (dC, dI)) (ci := 5) (v := .ref mw) (C := RX5) (T := TX5) (N := 15) hx hb hts hiX5 hown hK hP 0 rfl rfl 0 (by decide) (hts (.fieldLink RX5 7 "RestRegistersModel" "w" "[I") (by decide +kernel)) (fun _ h9 => h9) rfl dX5_minds_49 ?_
    refine lv_bipush (v := (nI 39)) hx hb dX5_minds_52 (by decide) ?_
    refine lv_dup2_11 hx hb dX5_minds_54 rfl rfl ?_
    refine rn_iald hx hb hK hP 1 0 rfl rfl (i := 39) (by omega) (by decide) (v := (nI 8)) (congrArg nI ((cpN_out (by omega)).trans h8)) dX5_minds_55 ?_
    refine lv_iconst (v := (nI 1)) hx hb dX5_minds_56 (by decide) ?_
    refine rn_isub hx hb dX5_minds_57 (by omega) ?_
    refine rn_iast hx hb hK hP hD hS 1 0 rfl rfl (i := 39) (by omega) (by decide) (g := nA (uN (cpN Bw Bw 65 40 175) 39 (8 - 1))) (nA_upd _ _ _) dX5_minds_58 (fun H locs hP hD hS => ?_)
    have hP : va_P (dC, dI) vwCl [(m0, .inr (5, [.ref mw, .int (bi im), .ref mt, .int (nI tl), .ref ml, .ref mz, .ref mi, .ref mr, .int (nI at0), .int (nI st0), .int (nI nu), .int (nI rm), .int (nI rh), .ref md, .ref mh])), (mw, .inl (cI, 480, .inl (nA (uN (cpN Bw Bw 65 40 175) 39 (8 - 1)))))] H := hP
    have hD : va_D A [(m0, .inr (5, [.ref mw, .int (bi im), .ref mt, .int (nI tl), .ref ml, .ref mz, .ref mi, .ref mr, .int (nI at0), .int (nI st0), .int (nI nu), .int (nI rm), .int (nI rh), .ref md, .ref mh])), (mw, .inl (cI, 480, .inl (nA (uN (cpN Bw Bw 65 40 175) 39 (8 - 1)))))] := hD
    refine lv_iconst (v := (nI 0)) hx hb dX5_minds_59 (by decide) ?_
    refine lv_istore_n (lv' := [(1, .int (nI 0)), (0, .ref m0)]) hx hb dX5_minds_60 rfl hl (by decide) rfl (fun ls hl => ?_)
    have h39 : (uN (cpN Bw Bw 65 40 175) 39 (8 - 1)) 39 ≤ 7 := by rw [uN_eq]; omega
    have ec : nA (uN (cpN Bw Bw 65 40 175) 39 (8 - 1)) = nA (cpN (uN (cpN Bw Bw 65 40 175) 39 (8 - 1)) (uN (cpN Bw Bw 65 40 175) 39 (8 - 1)) 14 (40 + 25 * (uN (cpN Bw Bw 65 40 175) 39 (8 - 1)) 39) 0) := cpN_0 _ _ _ _
    rw [ec] at hP hD
    have hP : va_P (dC, dI) vwCl [(m0, .inr (5, [.ref mw, .int (bi im), .ref mt, .int (nI tl), .ref ml, .ref mz, .ref mi, .ref mr, .int (nI at0), .int (nI st0), .int (nI nu), .int (nI rm), .int (nI rh), .ref md, .ref mh])), (mw, .inl (cI, 480, .inl (nA (cpN (uN (cpN Bw Bw 65 40 175) 39 (8 - 1)) (uN (cpN Bw Bw 65 40 175) 39 (8 - 1)) 14 (40 + 25 * (uN (cpN Bw Bw 65 40 175) 39 (8 - 1)) 39) 0))))] H := hP
    have hD : va_D A [(m0, .inr (5, [.ref mw, .int (bi im), .ref mt, .int (nI tl), .ref ml, .ref mz, .ref mi, .ref mr, .int (nI at0), .int (nI st0), .int (nI nu), .int (nI rm), .int (nI rh), .ref md, .ref mh])), (mw, .inl (cI, 480, .inl (nA (cpN (uN (cpN Bw Bw 65 40 175) 39 (8 - 1)) (uN (cpN Bw Bw 65 40 175) 39 (8 - 1)) 14 (40 + 25 * (uN (cpN Bw Bw 65 40 175) 39 (8 - 1)) 39) 0))))] := hD
    refine rlW1 (A1 := Nat) (fun H locs ls => W p l e _ s m _ below meth c H locs 0 0 _ (F0 m 61 ls [])) (fun k H locs ls => k ≤ 25 ∧ va_P (dC, dI) vwCl [(m0, .inr (5, [.ref mw, .int (bi im), .ref mt, .int (nI tl), .ref ml, .ref mz, .ref mi, .ref mr, .int (nI at0), .int (nI st0), .int (nI nu), .int (nI rm), .int (nI rh), .ref md, .ref mh])), (mw, .inl (cI, 480, .inl (nA (cpN (uN (cpN Bw Bw 65 40 175) 39 (8 - 1)) (uN (cpN Bw Bw 65 40 175) 39 (8 - 1)) 14 (40 + 25 * (uN (cpN Bw Bw 65 40 175) 39 (8 - 1)) 39) k))))] H ∧ va_D A [(m0, .inr (5, [.ref mw, .int (bi im), .ref mt, .int (nI tl), .ref ml, .ref mz, .ref mi, .ref mr, .int (nI at0), .int (nI st0), .int (nI nu), .int (nI rm), .int (nI rh), .ref md, .ref mh])), (mw, .inl (cI, 480, .inl (nA (cpN (uN (cpN Bw Bw 65 40 175) 39 (8 - 1)) (uN (cpN Bw Bw 65 40 175) 39 (8 - 1)) 14 (40 + 25 * (uN (cpN Bw Bw 65 40 175) 39 (8 - 1)) 39) k))))] ∧ va_S A s.heap H locs ∧ lv_has ls 2 [(1, .int (nI k)), (0, .ref m0)]) (fun k => 25 - k) ?_ 0 H locs ls ⟨by omega, hP, hD, hS, lv_sub hl [0, 1] rfl⟩
    rintro k H locs ls ⟨hk2, hP, hD, hS, hl⟩ ih61
    refine lv_iload_n hx hb dX5_minds_61 rfl (lv_at hl 0 rfl) ?_
    refine lv_bipush (v := (nI 25)) hx hb dX5_minds_62 (by decide) ?_
    refine rn_icmp_ge (tgt := 102) hx hb dX5_minds_64 (by decide) (by omega) (by omega) (fun c64 => ?_) (fun c64 => ?_)
    · skip
      have ek : k = 25 := Nat.le_antisymm hk2 c64
      subst ek
      refine lv_aload_n hx hb dX5_minds_102 rfl (lv_at hl 1 rfl) ?_
      refine va_get (D := (dC, dI)) (ci := 5) (v := .ref mw) (C := RX5) (T := TX5) (N := 15) hx hb hts hiX5 hown hK hP 0 rfl rfl 0 (by decide) (hts (.fieldLink RX5 7 "RestRegistersModel" "w" "[I") (by decide +kernel)) (fun _ h9 => h9) rfl dX5_minds_103 ?_
      refine lv_bipush (v := (nI 39)) hx hb dX5_minds_106 (by decide) ?_
      refine lv_dup2_11 hx hb dX5_minds_108 rfl rfl ?_
      refine rn_iald hx hb hK hP 1 0 rfl rfl (i := 39) (by omega) (by decide) (v := (nI ((uN (cpN Bw Bw 65 40 175) 39 (8 - 1)) 39))) (congrArg nI (cpN_out (by omega))) dX5_minds_109 ?_
      refine lv_iconst (v := (nI 1)) hx hb dX5_minds_110 (by decide) ?_
      refine rn_iadd hx hb dX5_minds_111 ?_
      refine rn_iast hx hb hK hP hD hS 1 0 rfl rfl (i := 39) (by omega) (by decide) (g := nA (uN (cpN (uN (cpN Bw Bw 65 40 175) 39 (8 - 1)) (uN (cpN Bw Bw 65 40 175) 39 (8 - 1)) 14 (40 + 25 * (uN (cpN Bw Bw 65 40 175) 39 (8 - 1)) 39) 25) 39 ((uN (cpN Bw Bw 65 40 175) 39 (8 - 1)) 39 + 1))) (nA_upd _ _ _) dX5_minds_112 (fun H locs hP hD hS => ?_)
      have hP : va_P (dC, dI) vwCl [(m0, .inr (5, [.ref mw, .int (bi im), .ref mt, .int (nI tl), .ref ml, .ref mz, .ref mi, .ref mr, .int (nI at0), .int (nI st0), .int (nI nu), .int (nI rm), .int (nI rh), .ref md, .ref mh])), (mw, .inl (cI, 480, .inl (nA (uN (cpN (uN (cpN Bw Bw 65 40 175) 39 (8 - 1)) (uN (cpN Bw Bw 65 40 175) 39 (8 - 1)) 14 (40 + 25 * (uN (cpN Bw Bw 65 40 175) 39 (8 - 1)) 39) 25) 39 ((uN (cpN Bw Bw 65 40 175) 39 (8 - 1)) 39 + 1)))))] H := hP
      have hD : va_D A [(m0, .inr (5, [.ref mw, .int (bi im), .ref mt, .int (nI tl), .ref ml, .ref mz, .ref mi, .ref mr, .int (nI at0), .int (nI st0), .int (nI nu), .int (nI rm), .int (nI rh), .ref md, .ref mh])), (mw, .inl (cI, 480, .inl (nA (uN (cpN (uN (cpN Bw Bw 65 40 175) 39 (8 - 1)) (uN (cpN Bw Bw 65 40 175) 39 (8 - 1)) 14 (40 + 25 * (uN (cpN Bw Bw 65 40 175) 39 (8 - 1)) 39) 25) 39 ((uN (cpN Bw Bw 65 40 175) 39 (8 - 1)) 39 + 1)))))] := hD
      have ec : nA (uN (cpN (uN (cpN Bw Bw 65 40 175) 39 (8 - 1)) (uN (cpN Bw Bw 65 40 175) 39 (8 - 1)) 14 (40 + 25 * (uN (cpN Bw Bw 65 40 175) 39 (8 - 1)) 39) 25) 39 ((uN (cpN Bw Bw 65 40 175) 39 (8 - 1)) 39 + 1)) = nA (mdB Bw) := by unfold mdB; rw [show md1 Bw = uN (cpN Bw Bw 65 40 175) 39 (8 - 1) from if_pos h8]
      rw [ec] at hP hD
      have hP : va_P (dC, dI) vwCl [(m0, .inr (5, [.ref mw, .int (bi im), .ref mt, .int (nI tl), .ref ml, .ref mz, .ref mi, .ref mr, .int (nI at0), .int (nI st0), .int (nI nu), .int (nI rm), .int (nI rh), .ref md, .ref mh])), (mw, .inl (cI, 480, .inl (nA (mdB Bw))))] H := hP
      have hD : va_D A [(m0, .inr (5, [.ref mw, .int (bi im), .ref mt, .int (nI tl), .ref ml, .ref mz, .ref mi, .ref mr, .int (nI at0), .int (nI st0), .int (nI nu), .int (nI rm), .int (nI rh), .ref md, .ref mh])), (mw, .inl (cI, 480, .inl (nA (mdB Bw))))] := hD
      exact rr_vretW hx hb hr hlocks dX5_minds_113 hP hD hS
    refine lv_aload_n hx hb dX5_minds_67 rfl (lv_at hl 1 rfl) ?_
    refine va_get (D := (dC, dI)) (ci := 5) (v := .ref mw) (C := RX5) (T := TX5) (N := 15) hx hb hts hiX5 hown hK hP 0 rfl rfl 0 (by decide) (hts (.fieldLink RX5 7 "RestRegistersModel" "w" "[I") (by decide +kernel)) (fun _ h9 => h9) rfl dX5_minds_68 ?_
    refine lv_bipush (v := (nI 40)) hx hb dX5_minds_71 (by decide) ?_
    refine lv_bipush (v := (nI 25)) hx hb dX5_minds_73 (by decide) ?_
    refine lv_aload_n hx hb dX5_minds_75 rfl (lv_at hl 1 rfl) ?_
    refine va_get (D := (dC, dI)) (ci := 5) (v := .ref mw) (C := RX5) (T := TX5) (N := 15) hx hb hts hiX5 hown hK hP 0 rfl rfl 0 (by decide) (hts (.fieldLink RX5 7 "RestRegistersModel" "w" "[I") (by decide +kernel)) (fun _ h9 => h9) rfl dX5_minds_76 ?_
    refine lv_bipush (v := (nI 39)) hx hb dX5_minds_79 (by decide) ?_
    refine rn_iald hx hb hK hP 1 0 rfl rfl (i := 39) (by omega) (by decide) (v := (nI ((uN (cpN Bw Bw 65 40 175) 39 (8 - 1)) 39))) (congrArg nI (cpN_out (by omega))) dX5_minds_81 ?_
    refine rn_imul hx hb dX5_minds_82 ?_
    refine rn_iadd hx hb dX5_minds_83 ?_
    refine lv_iload_n hx hb dX5_minds_84 rfl (lv_at hl 0 rfl) ?_
    refine rn_iadd hx hb dX5_minds_85 ?_
    refine lv_aload_n hx hb dX5_minds_86 rfl (lv_at hl 1 rfl) ?_
    refine va_get (D := (dC, dI)) (ci := 5) (v := .ref mw) (C := RX5) (T := TX5) (N := 15) hx hb hts hiX5 hown hK hP 0 rfl rfl 0 (by decide) (hts (.fieldLink RX5 7 "RestRegistersModel" "w" "[I") (by decide +kernel)) (fun _ h9 => h9) rfl dX5_minds_87 ?_
    refine lv_bipush (v := (nI 14)) hx hb dX5_minds_90 (by decide) ?_
    refine lv_iload_n hx hb dX5_minds_92 rfl (lv_at hl 0 rfl) ?_
    refine rn_iadd hx hb dX5_minds_93 ?_
    refine rn_iald hx hb hK hP 1 0 rfl rfl (i := 14 + k) (by omega) (by decide) (v := (nI ((uN (cpN Bw Bw 65 40 175) 39 (8 - 1)) (14 + k)))) (congrArg nI (cpN_out (by omega))) dX5_minds_94 ?_
    refine rn_iast hx hb hK hP hD hS 1 0 rfl rfl (i := 40 + (25 * ((uN (cpN Bw Bw 65 40 175) 39 (8 - 1)) 39)) + k) (by omega) (by decide) (g := nA (uN (cpN (uN (cpN Bw Bw 65 40 175) 39 (8 - 1)) (uN (cpN Bw Bw 65 40 175) 39 (8 - 1)) 14 (40 + 25 * (uN (cpN Bw Bw 65 40 175) 39 (8 - 1)) 39) k) (40 + (25 * ((uN (cpN Bw Bw 65 40 175) 39 (8 - 1)) 39)) + k) ((uN (cpN Bw Bw 65 40 175) 39 (8 - 1)) (14 + k)))) (nA_upd _ _ _) dX5_minds_95 (fun H locs hP hD hS => ?_)
    have hP : va_P (dC, dI) vwCl [(m0, .inr (5, [.ref mw, .int (bi im), .ref mt, .int (nI tl), .ref ml, .ref mz, .ref mi, .ref mr, .int (nI at0), .int (nI st0), .int (nI nu), .int (nI rm), .int (nI rh), .ref md, .ref mh])), (mw, .inl (cI, 480, .inl (nA (uN (cpN (uN (cpN Bw Bw 65 40 175) 39 (8 - 1)) (uN (cpN Bw Bw 65 40 175) 39 (8 - 1)) 14 (40 + 25 * (uN (cpN Bw Bw 65 40 175) 39 (8 - 1)) 39) k) (40 + (25 * ((uN (cpN Bw Bw 65 40 175) 39 (8 - 1)) 39)) + k) ((uN (cpN Bw Bw 65 40 175) 39 (8 - 1)) (14 + k))))))] H := hP
    have hD : va_D A [(m0, .inr (5, [.ref mw, .int (bi im), .ref mt, .int (nI tl), .ref ml, .ref mz, .ref mi, .ref mr, .int (nI at0), .int (nI st0), .int (nI nu), .int (nI rm), .int (nI rh), .ref md, .ref mh])), (mw, .inl (cI, 480, .inl (nA (uN (cpN (uN (cpN Bw Bw 65 40 175) 39 (8 - 1)) (uN (cpN Bw Bw 65 40 175) 39 (8 - 1)) 14 (40 + 25 * (uN (cpN Bw Bw 65 40 175) 39 (8 - 1)) 39) k) (40 + (25 * ((uN (cpN Bw Bw 65 40 175) 39 (8 - 1)) 39)) + k) ((uN (cpN Bw Bw 65 40 175) 39 (8 - 1)) (14 + k))))))] := hD
    have ec : nA (uN (cpN (uN (cpN Bw Bw 65 40 175) 39 (8 - 1)) (uN (cpN Bw Bw 65 40 175) 39 (8 - 1)) 14 (40 + 25 * (uN (cpN Bw Bw 65 40 175) 39 (8 - 1)) 39) k) (40 + (25 * ((uN (cpN Bw Bw 65 40 175) 39 (8 - 1)) 39)) + k) ((uN (cpN Bw Bw 65 40 175) 39 (8 - 1)) (14 + k))) = nA (cpN (uN (cpN Bw Bw 65 40 175) 39 (8 - 1)) (uN (cpN Bw Bw 65 40 175) 39 (8 - 1)) 14 (40 + 25 * (uN (cpN Bw Bw 65 40 175) 39 (8 - 1)) 39) (k + 1)) := cpN_s rfl rfl
    rw [ec] at hP hD
    have hP : va_P (dC, dI) vwCl [(m0, .inr (5, [.ref mw, .int (bi im), .ref mt, .int (nI tl), .ref ml, .ref mz, .ref mi, .ref mr, .int (nI at0), .int (nI st0), .int (nI nu), .int (nI rm), .int (nI rh), .ref md, .ref mh])), (mw, .inl (cI, 480, .inl (nA (cpN (uN (cpN Bw Bw 65 40 175) 39 (8 - 1)) (uN (cpN Bw Bw 65 40 175) 39 (8 - 1)) 14 (40 + 25 * (uN (cpN Bw Bw 65 40 175) 39 (8 - 1)) 39) (k + 1)))))] H := hP
    have hD : va_D A [(m0, .inr (5, [.ref mw, .int (bi im), .ref mt, .int (nI tl), .ref ml, .ref mz, .ref mi, .ref mr, .int (nI at0), .int (nI st0), .int (nI nu), .int (nI rm), .int (nI rh), .ref md, .ref mh])), (mw, .inl (cI, 480, .inl (nA (cpN (uN (cpN Bw Bw 65 40 175) 39 (8 - 1)) (uN (cpN Bw Bw 65 40 175) 39 (8 - 1)) 14 (40 + 25 * (uN (cpN Bw Bw 65 40 175) 39 (8 - 1)) 39) (k + 1)))))] := hD
    refine lv_iinc (v := (nI (k + 1))) (lv' := [(1, .int (nI (k + 1))), (0, .ref m0)]) hx hb dX5_minds_96 hl (k := 0) rfl (rn_inc k 1) (by decide) rfl (fun ls hl => ?_)
    refine lv_goto (tgt := 61) hx hb dX5_minds_99 (by decide) ?_
    exact ih61 (k + 1) _ _ ls ⟨by omega, hP, hD, hS, lv_sub hl [0, 1] rfl⟩ (by omega)
  refine lv_aload_n hx hb dX5_minds_21 rfl (lv_at hl 1 rfl) ?_
  refine va_get (D := (dC, dI)) (ci := 5) (v := .ref mw) (C := RX5) (T := TX5) (N := 15) hx hb hts hiX5 hown hK hP 0 rfl rfl 0 (by decide) (hts (.fieldLink RX5 7 "RestRegistersModel" "w" "[I") (by decide +kernel)) (fun _ h9 => h9) rfl dX5_minds_22 ?_
  refine lv_bipush (v := (nI 40)) hx hb dX5_minds_25 (by decide) ?_
  refine lv_iload_n hx hb dX5_minds_27 rfl (lv_at hl 0 rfl) ?_
  refine rn_iadd hx hb dX5_minds_28 ?_
  refine lv_aload_n hx hb dX5_minds_29 rfl (lv_at hl 1 rfl) ?_
  refine va_get (D := (dC, dI)) (ci := 5) (v := .ref mw) (C := RX5) (T := TX5) (N := 15) hx hb hts hiX5 hown hK hP 0 rfl rfl 0 (by decide) (hts (.fieldLink RX5 7 "RestRegistersModel" "w" "[I") (by decide +kernel)) (fun _ h9 => h9) rfl dX5_minds_30 ?_
  refine lv_bipush (v := (nI 40)) hx hb dX5_minds_33 (by decide) ?_
  refine lv_iload_n hx hb dX5_minds_35 rfl (lv_at hl 0 rfl) ?_
  refine rn_iadd hx hb dX5_minds_36 ?_
  refine lv_bipush (v := (nI 25)) hx hb dX5_minds_37 (by decide) ?_
  refine rn_iadd hx hb dX5_minds_39 ?_
  refine rn_iald hx hb hK hP 1 0 rfl rfl (i := 40 + k + 25) (by omega) (by decide) (v := (nI (Bw (65 + k)))) (congrArg nI ((cpN_out (by omega)).trans (by rw [show 40 + k + 25 = 65 + k by omega]))) dX5_minds_40 ?_
  refine rn_iast hx hb hK hP hD hS 1 0 rfl rfl (i := 40 + k) (by omega) (by decide) (g := nA (uN (cpN Bw Bw 65 40 k) (40 + k) (Bw (65 + k)))) (nA_upd _ _ _) dX5_minds_41 (fun H locs hP hD hS => ?_)
  have hP : va_P (dC, dI) vwCl [(m0, .inr (5, [.ref mw, .int (bi im), .ref mt, .int (nI tl), .ref ml, .ref mz, .ref mi, .ref mr, .int (nI at0), .int (nI st0), .int (nI nu), .int (nI rm), .int (nI rh), .ref md, .ref mh])), (mw, .inl (cI, 480, .inl (nA (uN (cpN Bw Bw 65 40 k) (40 + k) (Bw (65 + k))))))] H := hP
  have hD : va_D A [(m0, .inr (5, [.ref mw, .int (bi im), .ref mt, .int (nI tl), .ref ml, .ref mz, .ref mi, .ref mr, .int (nI at0), .int (nI st0), .int (nI nu), .int (nI rm), .int (nI rh), .ref md, .ref mh])), (mw, .inl (cI, 480, .inl (nA (uN (cpN Bw Bw 65 40 k) (40 + k) (Bw (65 + k))))))] := hD
  have ec : nA (uN (cpN Bw Bw 65 40 k) (40 + k) (Bw (65 + k))) = nA (cpN Bw Bw 65 40 (k + 1)) := cpN_s rfl rfl
  rw [ec] at hP hD
  have hP : va_P (dC, dI) vwCl [(m0, .inr (5, [.ref mw, .int (bi im), .ref mt, .int (nI tl), .ref ml, .ref mz, .ref mi, .ref mr, .int (nI at0), .int (nI st0), .int (nI nu), .int (nI rm), .int (nI rh), .ref md, .ref mh])), (mw, .inl (cI, 480, .inl (nA (cpN Bw Bw 65 40 (k + 1)))))] H := hP
  have hD : va_D A [(m0, .inr (5, [.ref mw, .int (bi im), .ref mt, .int (nI tl), .ref ml, .ref mz, .ref mi, .ref mr, .int (nI at0), .int (nI st0), .int (nI nu), .int (nI rm), .int (nI rh), .ref md, .ref mh])), (mw, .inl (cI, 480, .inl (nA (cpN Bw Bw 65 40 (k + 1)))))] := hD
  refine lv_iinc (v := (nI (k + 1))) (lv' := [(1, .int (nI (k + 1))), (0, .ref m0)]) hx hb dX5_minds_42 hl (k := 0) rfl (rn_inc k 1) (by decide) rfl (fun ls hl => ?_)
  refine lv_goto (tgt := 14) hx hb dX5_minds_45 (by decide) ?_
  exact ih14 (k + 1) _ _ ls ⟨by omega, hP, hD, hS, lv_sub hl [0, 1] rfl⟩ (by omega)
set_option maxHeartbeats 4000000 in
set_option maxRecDepth 100000 in
theorem c_X5_minds_l (l : Launch) (dC : Nat → ClassId) (dI : Nat → Nat → Nat) (cI cJ cS : ClassId) (sz : Nat) (m0 mw mt ml mz mi mr md mh : Nat) (im : Bool) (tl at0 st0 nu rm rh : Nat) (Bw : Nat → Nat) (h8 : Bw 39 < 8) : Met l yX5_minds wsX5_minds ({ frames := 0, cells := 0, slots := 0, locals := 0 }) (va_Pc [.ref m0] (rW (dC, dI) vwCl [(m0, .inr (5, [.ref mw, .int (bi im), .ref mt, .int (nI tl), .ref ml, .ref mz, .ref mi, .ref mr, .int (nI at0), .int (nI st0), .int (nI nu), .int (nI rm), .int (nI rh), .ref md, .ref mh])), (mw, .inl (cI, 480, .inl (nA Bw)))] (tyz cI cJ cS) sz)) (qV (dC, dI) vwCl [(m0, .inr (5, [.ref mw, .int (bi im), .ref mt, .int (nI tl), .ref ml, .ref mz, .ref mi, .ref mr, .int (nI at0), .int (nI st0), .int (nI nu), .int (nI rm), .int (nI rh), .ref md, .ref mh])), (mw, .inl (cI, 480, .inl (nA (mdB Bw))))] (va_A [(m0, .inr (5, [.ref mw, .int (bi im), .ref mt, .int (nI tl), .ref ml, .ref mz, .ref mi, .ref mr, .int (nI at0), .int (nI st0), .int (nI nu), .int (nI rm), .int (nI rh), .ref md, .ref mh])), (mw, .inl (cI, 480, .inl (nA Bw)))] sz)) 0 0 (va_A [(m0, .inr (5, [.ref mw, .int (bi im), .ref mt, .int (nI tl), .ref ml, .ref mz, .ref mi, .ref mr, .int (nI at0), .int (nI st0), .int (nI nu), .int (nI rm), .int (nI rh), .ref md, .ref mh])), (mw, .inl (cI, 480, .inl (nA Bw)))] sz) := by
  refine Met.ofW (cc := cX5_minds) (maxL := 2) (ret := none) (by decide) rfl ?_
  intro p e s m args below meth c s₁ B hml hv
  obtain ⟨rfl, hsz, hP, hKK, hD0⟩ := hv
  have hK := hKK.1
  have hx := B.exec
  have hb := B.bytes
  have hr := B.returns
  have hts := atoms_spec (ws := wsX5_minds) B.pre
  have hown : s.vm.findClass RX5 = some m.cls := findClass_of_methodNamed B.named
  have hlocks := B.notSynchronized
  subst hsz
  have hD := hD0.self (sz := s.heap.size)
  generalize hAe : va_A [(m0, .inr (5, [.ref mw, .int (bi im), .ref mt, .int (nI tl), .ref ml, .ref mz, .ref mi, .ref mr, .int (nI at0), .int (nI st0), .int (nI nu), .int (nI rm), .int (nI rh), .ref md, .ref mh])), (mw, .inl (cI, 480, .inl (nA Bw)))] s.heap.size = A at hD ⊢
  have hA : ∀ q : Nat, s.heap.size ≤ q → A q := fun q h => by rw [← hAe]; exact Or.inr h
  have hS : va_S A s.heap s.heap [] := va_S.rf
  have hP : va_P (dC, dI) vwCl [(m0, .inr (5, [.ref mw, .int (bi im), .ref mt, .int (nI tl), .ref ml, .ref mz, .ref mi, .ref mr, .int (nI at0), .int (nI st0), .int (nI nu), .int (nI rm), .int (nI rh), .ref md, .ref mh])), (mw, .inl (cI, 480, .inl (nA Bw)))] s.heap := hP
  have hiX5 : ∀ w ∈ wsX50, w ∈ wsX5_minds := by decide +kernel
  have hl := lv_entry ([.ref m0]) (n := 2) (Nat.le_of_ble_eq_true rfl)
  rw [lg_entry_eq]
  generalize (lg_sl ([.ref m0]) ++ List.replicate (2 - (lg_sl ([.ref m0])).length) Slot.unset).toArray = ls at hl ⊢
  have hl : lv_has ls 2 [(0, .ref m0)] := hl
  refine lv_aload_n hx hb dX5_minds_0 rfl (lv_at hl 0 rfl) ?_
  refine va_get (D := (dC, dI)) (ci := 5) (v := .ref mw) (C := RX5) (T := TX5) (N := 15) hx hb hts hiX5 hown hK hP 0 rfl rfl 0 (by decide) (hts (.fieldLink RX5 7 "RestRegistersModel" "w" "[I") (by decide +kernel)) (fun _ h9 => h9) rfl dX5_minds_1 ?_
  refine lv_bipush (v := (nI 39)) hx hb dX5_minds_4 (by decide) ?_
  refine rn_iald hx hb hK hP 1 0 rfl rfl (i := 39) (by omega) (by decide) (v := (nI (Bw 39))) rfl dX5_minds_6 ?_
  refine lv_bipush (v := (nI 8)) hx hb dX5_minds_7 (by decide) ?_
  refine rn_icmp_ne (tgt := 59) hx hb dX5_minds_9 (by decide) (by omega) (by omega) (fun c9 => ?_) (fun c9 => ?_)
  · skip
    refine lv_iconst (v := (nI 0)) hx hb dX5_minds_59 (by decide) ?_
    refine lv_istore_n (lv' := [(1, .int (nI 0)), (0, .ref m0)]) hx hb dX5_minds_60 rfl hl (by decide) rfl (fun ls hl => ?_)
    have h39 : Bw 39 ≤ 7 := by omega
    have ec : nA Bw = nA (cpN Bw Bw 14 (40 + 25 * Bw 39) 0) := cpN_0 _ _ _ _
    rw [ec] at hP hD
    have hP : va_P (dC, dI) vwCl [(m0, .inr (5, [.ref mw, .int (bi im), .ref mt, .int (nI tl), .ref ml, .ref mz, .ref mi, .ref mr, .int (nI at0), .int (nI st0), .int (nI nu), .int (nI rm), .int (nI rh), .ref md, .ref mh])), (mw, .inl (cI, 480, .inl (nA (cpN Bw Bw 14 (40 + 25 * Bw 39) 0))))] s.heap := hP
    have hD : va_D A [(m0, .inr (5, [.ref mw, .int (bi im), .ref mt, .int (nI tl), .ref ml, .ref mz, .ref mi, .ref mr, .int (nI at0), .int (nI st0), .int (nI nu), .int (nI rm), .int (nI rh), .ref md, .ref mh])), (mw, .inl (cI, 480, .inl (nA (cpN Bw Bw 14 (40 + 25 * Bw 39) 0))))] := hD
    refine rlW1 (A1 := Nat) (fun H locs ls => W p l e _ s m _ below meth c H locs 0 0 _ (F0 m 61 ls [])) (fun k H locs ls => k ≤ 25 ∧ va_P (dC, dI) vwCl [(m0, .inr (5, [.ref mw, .int (bi im), .ref mt, .int (nI tl), .ref ml, .ref mz, .ref mi, .ref mr, .int (nI at0), .int (nI st0), .int (nI nu), .int (nI rm), .int (nI rh), .ref md, .ref mh])), (mw, .inl (cI, 480, .inl (nA (cpN Bw Bw 14 (40 + 25 * Bw 39) k))))] H ∧ va_D A [(m0, .inr (5, [.ref mw, .int (bi im), .ref mt, .int (nI tl), .ref ml, .ref mz, .ref mi, .ref mr, .int (nI at0), .int (nI st0), .int (nI nu), .int (nI rm), .int (nI rh), .ref md, .ref mh])), (mw, .inl (cI, 480, .inl (nA (cpN Bw Bw 14 (40 + 25 * Bw 39) k))))] ∧ va_S A s.heap H locs ∧ lv_has ls 2 [(1, .int (nI k)), (0, .ref m0)]) (fun k => 25 - k) ?_ 0 _ _ ls ⟨by omega, hP, hD, hS, lv_sub hl [0, 1] rfl⟩
    rintro k H locs ls ⟨hk2, hP, hD, hS, hl⟩ ih61
    refine lv_iload_n hx hb dX5_minds_61 rfl (lv_at hl 0 rfl) ?_
    refine lv_bipush (v := (nI 25)) hx hb dX5_minds_62 (by decide) ?_
    refine rn_icmp_ge (tgt := 102) hx hb dX5_minds_64 (by decide) (by omega) (by omega) (fun c64 => ?_) (fun c64 => ?_)
    · skip
      have ek : k = 25 := Nat.le_antisymm hk2 c64
      subst ek
      refine lv_aload_n hx hb dX5_minds_102 rfl (lv_at hl 1 rfl) ?_
      refine va_get (D := (dC, dI)) (ci := 5) (v := .ref mw) (C := RX5) (T := TX5) (N := 15) hx hb hts hiX5 hown hK hP 0 rfl rfl 0 (by decide) (hts (.fieldLink RX5 7 "RestRegistersModel" "w" "[I") (by decide +kernel)) (fun _ h9 => h9) rfl dX5_minds_103 ?_
      refine lv_bipush (v := (nI 39)) hx hb dX5_minds_106 (by decide) ?_
      refine lv_dup2_11 hx hb dX5_minds_108 rfl rfl ?_
      refine rn_iald hx hb hK hP 1 0 rfl rfl (i := 39) (by omega) (by decide) (v := (nI (Bw 39))) (congrArg nI (cpN_out (by omega))) dX5_minds_109 ?_
      refine lv_iconst (v := (nI 1)) hx hb dX5_minds_110 (by decide) ?_
      refine rn_iadd hx hb dX5_minds_111 ?_
      refine rn_iast hx hb hK hP hD hS 1 0 rfl rfl (i := 39) (by omega) (by decide) (g := nA (uN (cpN Bw Bw 14 (40 + 25 * Bw 39) 25) 39 (Bw 39 + 1))) (nA_upd _ _ _) dX5_minds_112 (fun H locs hP hD hS => ?_)
      have hP : va_P (dC, dI) vwCl [(m0, .inr (5, [.ref mw, .int (bi im), .ref mt, .int (nI tl), .ref ml, .ref mz, .ref mi, .ref mr, .int (nI at0), .int (nI st0), .int (nI nu), .int (nI rm), .int (nI rh), .ref md, .ref mh])), (mw, .inl (cI, 480, .inl (nA (uN (cpN Bw Bw 14 (40 + 25 * Bw 39) 25) 39 (Bw 39 + 1)))))] H := hP
      have hD : va_D A [(m0, .inr (5, [.ref mw, .int (bi im), .ref mt, .int (nI tl), .ref ml, .ref mz, .ref mi, .ref mr, .int (nI at0), .int (nI st0), .int (nI nu), .int (nI rm), .int (nI rh), .ref md, .ref mh])), (mw, .inl (cI, 480, .inl (nA (uN (cpN Bw Bw 14 (40 + 25 * Bw 39) 25) 39 (Bw 39 + 1)))))] := hD
      have ec : nA (uN (cpN Bw Bw 14 (40 + 25 * Bw 39) 25) 39 (Bw 39 + 1)) = nA (mdB Bw) := by unfold mdB; rw [show md1 Bw = Bw from if_neg (by omega)]
      rw [ec] at hP hD
      have hP : va_P (dC, dI) vwCl [(m0, .inr (5, [.ref mw, .int (bi im), .ref mt, .int (nI tl), .ref ml, .ref mz, .ref mi, .ref mr, .int (nI at0), .int (nI st0), .int (nI nu), .int (nI rm), .int (nI rh), .ref md, .ref mh])), (mw, .inl (cI, 480, .inl (nA (mdB Bw))))] H := hP
      have hD : va_D A [(m0, .inr (5, [.ref mw, .int (bi im), .ref mt, .int (nI tl), .ref ml, .ref mz, .ref mi, .ref mr, .int (nI at0), .int (nI st0), .int (nI nu), .int (nI rm), .int (nI rh), .ref md, .ref mh])), (mw, .inl (cI, 480, .inl (nA (mdB Bw))))] := hD
      exact rr_vretW hx hb hr hlocks dX5_minds_113 hP hD hS
    refine lv_aload_n hx hb dX5_minds_67 rfl (lv_at hl 1 rfl) ?_
    refine va_get (D := (dC, dI)) (ci := 5) (v := .ref mw) (C := RX5) (T := TX5) (N := 15) hx hb hts hiX5 hown hK hP 0 rfl rfl 0 (by decide) (hts (.fieldLink RX5 7 "RestRegistersModel" "w" "[I") (by decide +kernel)) (fun _ h9 => h9) rfl dX5_minds_68 ?_
    refine lv_bipush (v := (nI 40)) hx hb dX5_minds_71 (by decide) ?_
    refine lv_bipush (v := (nI 25)) hx hb dX5_minds_73 (by decide) ?_
    refine lv_aload_n hx hb dX5_minds_75 rfl (lv_at hl 1 rfl) ?_
    refine va_get (D := (dC, dI)) (ci := 5) (v := .ref mw) (C := RX5) (T := TX5) (N := 15) hx hb hts hiX5 hown hK hP 0 rfl rfl 0 (by decide) (hts (.fieldLink RX5 7 "RestRegistersModel" "w" "[I") (by decide +kernel)) (fun _ h9 => h9) rfl dX5_minds_76 ?_
    refine lv_bipush (v := (nI 39)) hx hb dX5_minds_79 (by decide) ?_
    refine rn_iald hx hb hK hP 1 0 rfl rfl (i := 39) (by omega) (by decide) (v := (nI (Bw 39))) (congrArg nI (cpN_out (by omega))) dX5_minds_81 ?_
    refine rn_imul hx hb dX5_minds_82 ?_
    refine rn_iadd hx hb dX5_minds_83 ?_
    refine lv_iload_n hx hb dX5_minds_84 rfl (lv_at hl 0 rfl) ?_
    refine rn_iadd hx hb dX5_minds_85 ?_
    refine lv_aload_n hx hb dX5_minds_86 rfl (lv_at hl 1 rfl) ?_
    refine va_get (D := (dC, dI)) (ci := 5) (v := .ref mw) (C := RX5) (T := TX5) (N := 15) hx hb hts hiX5 hown hK hP 0 rfl rfl 0 (by decide) (hts (.fieldLink RX5 7 "RestRegistersModel" "w" "[I") (by decide +kernel)) (fun _ h9 => h9) rfl dX5_minds_87 ?_
    refine lv_bipush (v := (nI 14)) hx hb dX5_minds_90 (by decide) ?_
    refine lv_iload_n hx hb dX5_minds_92 rfl (lv_at hl 0 rfl) ?_
    refine rn_iadd hx hb dX5_minds_93 ?_
    refine rn_iald hx hb hK hP 1 0 rfl rfl (i := 14 + k) (by omega) (by decide) (v := (nI (Bw (14 + k)))) (congrArg nI (cpN_out (by omega))) dX5_minds_94 ?_
    refine rn_iast hx hb hK hP hD hS 1 0 rfl rfl (i := 40 + (25 * (Bw 39)) + k) (by omega) (by decide) (g := nA (uN (cpN Bw Bw 14 (40 + 25 * Bw 39) k) (40 + (25 * (Bw 39)) + k) (Bw (14 + k)))) (nA_upd _ _ _) dX5_minds_95 (fun H locs hP hD hS => ?_)
    have hP : va_P (dC, dI) vwCl [(m0, .inr (5, [.ref mw, .int (bi im), .ref mt, .int (nI tl), .ref ml, .ref mz, .ref mi, .ref mr, .int (nI at0), .int (nI st0), .int (nI nu), .int (nI rm), .int (nI rh), .ref md, .ref mh])), (mw, .inl (cI, 480, .inl (nA (uN (cpN Bw Bw 14 (40 + 25 * Bw 39) k) (40 + (25 * (Bw 39)) + k) (Bw (14 + k))))))] H := hP
    have hD : va_D A [(m0, .inr (5, [.ref mw, .int (bi im), .ref mt, .int (nI tl), .ref ml, .ref mz, .ref mi, .ref mr, .int (nI at0), .int (nI st0), .int (nI nu), .int (nI rm), .int (nI rh), .ref md, .ref mh])), (mw, .inl (cI, 480, .inl (nA (uN (cpN Bw Bw 14 (40 + 25 * Bw 39) k) (40 + (25 * (Bw 39)) + k) (Bw (14 + k))))))] := hD
    have ec : nA (uN (cpN Bw Bw 14 (40 + 25 * Bw 39) k) (40 + (25 * (Bw 39)) + k) (Bw (14 + k))) = nA (cpN Bw Bw 14 (40 + 25 * Bw 39) (k + 1)) := cpN_s rfl rfl
    rw [ec] at hP hD
    have hP : va_P (dC, dI) vwCl [(m0, .inr (5, [.ref mw, .int (bi im), .ref mt, .int (nI tl), .ref ml, .ref mz, .ref mi, .ref mr, .int (nI at0), .int (nI st0), .int (nI nu), .int (nI rm), .int (nI rh), .ref md, .ref mh])), (mw, .inl (cI, 480, .inl (nA (cpN Bw Bw 14 (40 + 25 * Bw 39) (k + 1)))))] H := hP
    have hD : va_D A [(m0, .inr (5, [.ref mw, .int (bi im), .ref mt, .int (nI tl), .ref ml, .ref mz, .ref mi, .ref mr, .int (nI at0), .int (nI st0), .int (nI nu), .int (nI rm), .int (nI rh), .ref md, .ref mh])), (mw, .inl (cI, 480, .inl (nA (cpN Bw Bw 14 (40 + 25 * Bw 39) (k + 1)))))] := hD
    refine lv_iinc (v := (nI (k + 1))) (lv' := [(1, .int (nI (k + 1))), (0, .ref m0)]) hx hb dX5_minds_96 hl (k := 0) rfl (rn_inc k 1) (by decide) rfl (fun ls hl => ?_)
    refine lv_goto (tgt := 61) hx hb dX5_minds_99 (by decide) ?_
    exact ih61 (k + 1) _ _ ls ⟨by omega, hP, hD, hS, lv_sub hl [0, 1] rfl⟩ (by omega)
  exact absurd c9 (by omega)
set_option maxRecDepth 100000 in
theorem c_X5_minds (l : Launch) (dC : Nat → ClassId) (dI : Nat → Nat → Nat) (cI cJ cS : ClassId) (sz : Nat) (m0 mw mt ml mz mi mr md mh : Nat) (im : Bool) (tl at0 st0 nu rm rh : Nat) (Bw : Nat → Nat) (h88 : Bw 39 ≤ 8) : Met l yX5_minds wsX5_minds ({ frames := 0, cells := 0, slots := 0, locals := 0 }) (va_Pc [.ref m0] (rW (dC, dI) vwCl [(m0, .inr (5, [.ref mw, .int (bi im), .ref mt, .int (nI tl), .ref ml, .ref mz, .ref mi, .ref mr, .int (nI at0), .int (nI st0), .int (nI nu), .int (nI rm), .int (nI rh), .ref md, .ref mh])), (mw, .inl (cI, 480, .inl (nA Bw)))] (tyz cI cJ cS) sz)) (qV (dC, dI) vwCl [(m0, .inr (5, [.ref mw, .int (bi im), .ref mt, .int (nI tl), .ref ml, .ref mz, .ref mi, .ref mr, .int (nI at0), .int (nI st0), .int (nI nu), .int (nI rm), .int (nI rh), .ref md, .ref mh])), (mw, .inl (cI, 480, .inl (nA (mdB Bw))))] (va_A [(m0, .inr (5, [.ref mw, .int (bi im), .ref mt, .int (nI tl), .ref ml, .ref mz, .ref mi, .ref mr, .int (nI at0), .int (nI st0), .int (nI nu), .int (nI rm), .int (nI rh), .ref md, .ref mh])), (mw, .inl (cI, 480, .inl (nA Bw)))] sz)) 0 0 (va_A [(m0, .inr (5, [.ref mw, .int (bi im), .ref mt, .int (nI tl), .ref ml, .ref mz, .ref mi, .ref mr, .int (nI at0), .int (nI st0), .int (nI nu), .int (nI rm), .int (nI rh), .ref md, .ref mh])), (mw, .inl (cI, 480, .inl (nA Bw)))] sz) := by
  rcases (show Bw 39 = 8 ∨ Bw 39 < 8 by omega) with q | q
  · exact c_X5_minds_8 l dC dI cI cJ cS sz m0 mw mt ml mz mi mr md mh im tl at0 st0 nu rm rh Bw q
  · exact c_X5_minds_l l dC dI cI cJ cS sz m0 mw mt ml mz mi mr md mh im tl at0 st0 nu rm rh Bw q
set_option maxHeartbeats 4000000 in
set_option maxRecDepth 100000 in
theorem c_X5_lays (l : Launch) (dC : Nat → ClassId) (dI : Nat → Nat → Nat) (cI cJ cS : ClassId) (sz : Nat) (m0 mw mt ml mz mi mr md mh : Nat) (im : Bool) (tl at0 st0 nu rm rh : Nat) (Bw : Nat → Nat) (r v : Nat) (hm : mOk Bw) (hr4 : r < 4) (hv2 : v < 2 ^ 31) : Met l yX5_lays wsX5_lays ({ frames := 0, cells := 0, slots := 0, locals := 0 }) (va_Pc [.ref m0, .int (nI r), .int (nI v)] (rW (dC, dI) vwCl [(m0, .inr (5, [.ref mw, .int (bi im), .ref mt, .int (nI tl), .ref ml, .ref mz, .ref mi, .ref mr, .int (nI at0), .int (nI st0), .int (nI nu), .int (nI rm), .int (nI rh), .ref md, .ref mh])), (mw, .inl (cI, 480, .inl (nA Bw)))] (tyz cI cJ cS) sz)) (qV (dC, dI) vwCl [(m0, .inr (5, [.ref mw, .int (bi im), .ref mt, .int (nI tl), .ref ml, .ref mz, .ref mi, .ref mr, .int (nI at0), .int (nI st0), .int (nI nu), .int (nI rm), .int (nI rh), .ref md, .ref mh])), (mw, .inl (cI, 480, .inl (nA (rwB r (fun k => v % wdB Bw k) (Bw 0) Bw))))] (va_A [(m0, .inr (5, [.ref mw, .int (bi im), .ref mt, .int (nI tl), .ref ml, .ref mz, .ref mi, .ref mr, .int (nI at0), .int (nI st0), .int (nI nu), .int (nI rm), .int (nI rh), .ref md, .ref mh])), (mw, .inl (cI, 480, .inl (nA Bw)))] sz)) 0 0 (va_A [(m0, .inr (5, [.ref mw, .int (bi im), .ref mt, .int (nI tl), .ref ml, .ref mz, .ref mi, .ref mr, .int (nI at0), .int (nI st0), .int (nI nu), .int (nI rm), .int (nI rh), .ref md, .ref mh])), (mw, .inl (cI, 480, .inl (nA Bw)))] sz) := by
  refine Met.ofW (cc := cX5_lays) (maxL := 4) (ret := none) (by decide) rfl ?_
  intro p e s m args below meth c s₁ B hml hv
  obtain ⟨rfl, hsz, hP, hKK, hD0⟩ := hv
  have hK := hKK.1
  have hx := B.exec
  have hb := B.bytes
  have hr := B.returns
  have hts := atoms_spec (ws := wsX5_lays) B.pre
  have hown : s.vm.findClass RX5 = some m.cls := findClass_of_methodNamed B.named
  have hlocks := B.notSynchronized
  subst hsz
  have hD := hD0.self (sz := s.heap.size)
  generalize hAe : va_A [(m0, .inr (5, [.ref mw, .int (bi im), .ref mt, .int (nI tl), .ref ml, .ref mz, .ref mi, .ref mr, .int (nI at0), .int (nI st0), .int (nI nu), .int (nI rm), .int (nI rh), .ref md, .ref mh])), (mw, .inl (cI, 480, .inl (nA Bw)))] s.heap.size = A at hD ⊢
  have hA : ∀ q : Nat, s.heap.size ≤ q → A q := fun q h => by rw [← hAe]; exact Or.inr h
  have hS : va_S A s.heap s.heap [] := va_S.rf
  have hP : va_P (dC, dI) vwCl [(m0, .inr (5, [.ref mw, .int (bi im), .ref mt, .int (nI tl), .ref ml, .ref mz, .ref mi, .ref mr, .int (nI at0), .int (nI st0), .int (nI nu), .int (nI rm), .int (nI rh), .ref md, .ref mh])), (mw, .inl (cI, 480, .inl (nA Bw)))] s.heap := hP
  have hiX5 : ∀ w ∈ wsX50, w ∈ wsX5_lays := by decide +kernel
  have hl := lv_entry ([.ref m0, .int (nI r), .int (nI v)]) (n := 4) (Nat.le_of_ble_eq_true rfl)
  rw [lg_entry_eq]
  generalize (lg_sl ([.ref m0, .int (nI r), .int (nI v)]) ++ List.replicate (4 - (lg_sl ([.ref m0, .int (nI r), .int (nI v)])).length) Slot.unset).toArray = ls at hl ⊢
  have hl : lv_has ls 4 [(0, .ref m0), (1, .int (nI r)), (2, .int (nI v))] := hl
  have hn6 := hm.n
  refine lv_iconst (v := (nI 0)) hx hb dX5_lays_0 (by decide) ?_
  refine lv_istore_n (lv' := [(3, .int (nI 0)), (0, .ref m0), (1, .int (nI r)), (2, .int (nI v))]) hx hb dX5_lays_1 rfl hl (by decide) rfl (fun ls hl => ?_)
  have ec : nA Bw = nA (rwB r (fun k => v % wdB Bw k) 0 Bw) := rwB_0 _ _ _
  rw [ec] at hP hD
  have hP : va_P (dC, dI) vwCl [(m0, .inr (5, [.ref mw, .int (bi im), .ref mt, .int (nI tl), .ref ml, .ref mz, .ref mi, .ref mr, .int (nI at0), .int (nI st0), .int (nI nu), .int (nI rm), .int (nI rh), .ref md, .ref mh])), (mw, .inl (cI, 480, .inl (nA (rwB r (fun k => v % wdB Bw k) 0 Bw))))] s.heap := hP
  have hD : va_D A [(m0, .inr (5, [.ref mw, .int (bi im), .ref mt, .int (nI tl), .ref ml, .ref mz, .ref mi, .ref mr, .int (nI at0), .int (nI st0), .int (nI nu), .int (nI rm), .int (nI rh), .ref md, .ref mh])), (mw, .inl (cI, 480, .inl (nA (rwB r (fun k => v % wdB Bw k) 0 Bw))))] := hD
  refine rlW1 (A1 := Nat) (fun H locs ls => W p l e _ s m _ below meth c H locs 0 0 _ (F0 m 2 ls [])) (fun k H locs ls => k ≤ Bw 0 ∧ va_P (dC, dI) vwCl [(m0, .inr (5, [.ref mw, .int (bi im), .ref mt, .int (nI tl), .ref ml, .ref mz, .ref mi, .ref mr, .int (nI at0), .int (nI st0), .int (nI nu), .int (nI rm), .int (nI rh), .ref md, .ref mh])), (mw, .inl (cI, 480, .inl (nA (rwB r (fun k => v % wdB Bw k) k Bw))))] H ∧ va_D A [(m0, .inr (5, [.ref mw, .int (bi im), .ref mt, .int (nI tl), .ref ml, .ref mz, .ref mi, .ref mr, .int (nI at0), .int (nI st0), .int (nI nu), .int (nI rm), .int (nI rh), .ref md, .ref mh])), (mw, .inl (cI, 480, .inl (nA (rwB r (fun k => v % wdB Bw k) k Bw))))] ∧ va_S A s.heap H locs ∧ lv_has ls 4 [(3, .int (nI k)), (0, .ref m0), (1, .int (nI r)), (2, .int (nI v))]) (fun k => Bw 0 - k) ?_ 0 _ _ ls ⟨by omega, hP, hD, hS, lv_sub hl [0, 1, 2, 3] rfl⟩
  rintro k H locs ls ⟨hi, hP, hD, hS, hl⟩ ih2
  refine lv_iload_n hx hb dX5_lays_2 rfl (lv_at hl 0 rfl) ?_
  refine lv_aload_n hx hb dX5_lays_3 rfl (lv_at hl 1 rfl) ?_
  refine va_get (D := (dC, dI)) (ci := 5) (v := .ref mw) (C := RX5) (T := TX5) (N := 15) hx hb hts hiX5 hown hK hP 0 rfl rfl 0 (by decide) (hts (.fieldLink RX5 7 "RestRegistersModel" "w" "[I") (by decide +kernel)) (fun _ h9 => h9) rfl dX5_lays_4 ?_
  refine lv_iconst (v := (nI 0)) hx hb dX5_lays_7 (by decide) ?_
  refine rn_iald hx hb hK hP 1 0 rfl rfl (i := 0) (by omega) (by decide) (v := (nI (Bw 0))) (congrArg nI (rwB_lo (by omega))) dX5_lays_8 ?_
  refine rn_icmp_ge (tgt := 43) hx hb dX5_lays_9 (by decide) (by omega) (by omega) (fun c9 => ?_) (fun c9 => ?_)
  · skip
    have ek : k = Bw 0 := Nat.le_antisymm hi c9
    subst ek
    have hP : va_P (dC, dI) vwCl [(m0, .inr (5, [.ref mw, .int (bi im), .ref mt, .int (nI tl), .ref ml, .ref mz, .ref mi, .ref mr, .int (nI at0), .int (nI st0), .int (nI nu), .int (nI rm), .int (nI rh), .ref md, .ref mh])), (mw, .inl (cI, 480, .inl (nA (rwB r (fun k => v % wdB Bw k) (Bw 0) Bw))))] H := hP
    have hD : va_D A [(m0, .inr (5, [.ref mw, .int (bi im), .ref mt, .int (nI tl), .ref ml, .ref mz, .ref mi, .ref mr, .int (nI at0), .int (nI st0), .int (nI nu), .int (nI rm), .int (nI rh), .ref md, .ref mh])), (mw, .inl (cI, 480, .inl (nA (rwB r (fun k => v % wdB Bw k) (Bw 0) Bw))))] := hD
    exact rr_vretW hx hb hr hlocks dX5_lays_43 hP hD hS
  refine lv_aload_n hx hb dX5_lays_12 rfl (lv_at hl 1 rfl) ?_
  refine va_get (D := (dC, dI)) (ci := 5) (v := .ref mw) (C := RX5) (T := TX5) (N := 15) hx hb hts hiX5 hown hK hP 0 rfl rfl 0 (by decide) (hts (.fieldLink RX5 7 "RestRegistersModel" "w" "[I") (by decide +kernel)) (fun _ h9 => h9) rfl dX5_lays_13 ?_
  refine lv_bipush (v := (nI 15)) hx hb dX5_lays_16 (by decide) ?_
  refine lv_bipush (v := (nI 6)) hx hb dX5_lays_18 (by decide) ?_
  refine lv_iload_n hx hb dX5_lays_20 rfl (lv_at hl 2 rfl) ?_
  refine rn_imul hx hb dX5_lays_21 ?_
  refine rn_iadd hx hb dX5_lays_22 ?_
  refine lv_iload_n hx hb dX5_lays_23 rfl (lv_at hl 0 rfl) ?_
  refine rn_iadd hx hb dX5_lays_24 ?_
  refine lv_iload_n hx hb dX5_lays_25 rfl (lv_at hl 3 rfl) ?_
  refine lv_aload_n hx hb dX5_lays_26 rfl (lv_at hl 1 rfl) ?_
  refine va_get (D := (dC, dI)) (ci := 5) (v := .ref mw) (C := RX5) (T := TX5) (N := 15) hx hb hts hiX5 hown hK hP 0 rfl rfl 0 (by decide) (hts (.fieldLink RX5 7 "RestRegistersModel" "w" "[I") (by decide +kernel)) (fun _ h9 => h9) rfl dX5_lays_27 ?_
  refine lv_bipush (v := (nI 8)) hx hb dX5_lays_30 (by decide) ?_
  refine lv_iload_n hx hb dX5_lays_32 rfl (lv_at hl 0 rfl) ?_
  refine rn_iadd hx hb dX5_lays_33 ?_
  refine rn_iald hx hb hK hP 1 0 rfl rfl (i := 8 + k) (by omega) (by decide) (v := (nI (wdB Bw k))) (rwB_wd (by omega)) dX5_lays_34 ?_
  have hw9 := hm.wd k (by omega)
  refine rn_irem hx hb dX5_lays_35 (by omega) (by omega) (by omega) ?_
  refine rn_iast hx hb hK hP hD hS 1 0 rfl rfl (i := 15 + (6 * r) + k) (by omega) (by decide) (g := nA (uN (rwB r (fun k => v % wdB Bw k) k Bw) (15 + (6 * r) + k) (v % (wdB Bw k)))) (nA_upd _ _ _) dX5_lays_36 (fun H locs hP hD hS => ?_)
  have hP : va_P (dC, dI) vwCl [(m0, .inr (5, [.ref mw, .int (bi im), .ref mt, .int (nI tl), .ref ml, .ref mz, .ref mi, .ref mr, .int (nI at0), .int (nI st0), .int (nI nu), .int (nI rm), .int (nI rh), .ref md, .ref mh])), (mw, .inl (cI, 480, .inl (nA (uN (rwB r (fun k => v % wdB Bw k) k Bw) (15 + (6 * r) + k) (v % (wdB Bw k))))))] H := hP
  have hD : va_D A [(m0, .inr (5, [.ref mw, .int (bi im), .ref mt, .int (nI tl), .ref ml, .ref mz, .ref mi, .ref mr, .int (nI at0), .int (nI st0), .int (nI nu), .int (nI rm), .int (nI rh), .ref md, .ref mh])), (mw, .inl (cI, 480, .inl (nA (uN (rwB r (fun k => v % wdB Bw k) k Bw) (15 + (6 * r) + k) (v % (wdB Bw k))))))] := hD
  have ec : nA (uN (rwB r (fun k => v % wdB Bw k) k Bw) (15 + (6 * r) + k) (v % (wdB Bw k))) = nA (rwB r (fun k => v % wdB Bw k) (k + 1) Bw) := rwB_s (rfl)
  rw [ec] at hP hD
  have hP : va_P (dC, dI) vwCl [(m0, .inr (5, [.ref mw, .int (bi im), .ref mt, .int (nI tl), .ref ml, .ref mz, .ref mi, .ref mr, .int (nI at0), .int (nI st0), .int (nI nu), .int (nI rm), .int (nI rh), .ref md, .ref mh])), (mw, .inl (cI, 480, .inl (nA (rwB r (fun k => v % wdB Bw k) (k + 1) Bw))))] H := hP
  have hD : va_D A [(m0, .inr (5, [.ref mw, .int (bi im), .ref mt, .int (nI tl), .ref ml, .ref mz, .ref mi, .ref mr, .int (nI at0), .int (nI st0), .int (nI nu), .int (nI rm), .int (nI rh), .ref md, .ref mh])), (mw, .inl (cI, 480, .inl (nA (rwB r (fun k => v % wdB Bw k) (k + 1) Bw))))] := hD
  refine lv_iinc (v := (nI (k + 1))) (lv' := [(3, .int (nI (k + 1))), (0, .ref m0), (1, .int (nI r)), (2, .int (nI v))]) hx hb dX5_lays_37 hl (k := 0) rfl (rn_inc k 1) (by decide) rfl (fun ls hl => ?_)
  refine lv_goto (tgt := 2) hx hb dX5_lays_40 (by decide) ?_
  exact ih2 (k + 1) _ _ ls ⟨by omega, hP, hD, hS, lv_sub hl [0, 1, 2, 3] rfl⟩ (by omega)
set_option maxHeartbeats 4000000 in
set_option maxRecDepth 100000 in
theorem c_X5_adds (l : Launch) (dC : Nat → ClassId) (dI : Nat → Nat → Nat) (cI cJ cS : ClassId) (sz : Nat) (m0 mw mt ml mz mi mr md mh : Nat) (im : Bool) (tl at0 st0 nu rm rh : Nat) (Bw : Nat → Nat) (r o : Nat) (hm : mOk Bw) (hr4 : r < 4) (ho4 : o < 4) : Met l yX5_adds wsX5_adds ({ frames := 4, cells := 0, slots := 0, locals := 91 }) (va_Pc [.ref m0, .int (nI r), .int (nI o)] (rW (dC, dI) vwCl [(m0, .inr (5, [.ref mw, .int (bi im), .ref mt, .int (nI tl), .ref ml, .ref mz, .ref mi, .ref mr, .int (nI at0), .int (nI st0), .int (nI nu), .int (nI rm), .int (nI rh), .ref md, .ref mh])), (mw, .inl (cI, 480, .inl (nA Bw)))] (tyz cI cJ cS) sz)) (qV (dC, dI) vwCl [(m0, .inr (5, [.ref mw, .int (bi im), .ref mt, .int (nI tl), .ref ml, .ref mz, .ref mi, .ref mr, .int (nI at0), .int (nI st0), .int (nI nu), .int (nI rm), .int (nI rh), .ref md, .ref mh])), (mw, .inl (cI, 480, .inl (nA (rwB r (adF (kdB Bw) (wdB Bw) (rsB Bw) r o) (Bw 0) Bw))))] (va_A [(m0, .inr (5, [.ref mw, .int (bi im), .ref mt, .int (nI tl), .ref ml, .ref mz, .ref mi, .ref mr, .int (nI at0), .int (nI st0), .int (nI nu), .int (nI rm), .int (nI rh), .ref md, .ref mh])), (mw, .inl (cI, 480, .inl (nA Bw)))] sz)) 0 0 (va_A [(m0, .inr (5, [.ref mw, .int (bi im), .ref mt, .int (nI tl), .ref ml, .ref mz, .ref mi, .ref mr, .int (nI at0), .int (nI st0), .int (nI nu), .int (nI rm), .int (nI rh), .ref md, .ref mh])), (mw, .inl (cI, 480, .inl (nA Bw)))] sz) := by
  refine Met.ofW (cc := cX5_adds) (maxL := 4) (ret := none) (by decide) rfl ?_
  intro p e s m args below meth c s₁ B hml hv
  obtain ⟨rfl, hsz, hP, hKK, hD0⟩ := hv
  have hK := hKK.1
  have hx := B.exec
  have hb := B.bytes
  have hr := B.returns
  have hts := atoms_spec (ws := wsX5_adds) B.pre
  have hown : s.vm.findClass RX5 = some m.cls := findClass_of_methodNamed B.named
  have hlocks := B.notSynchronized
  subst hsz
  have hD := hD0.self (sz := s.heap.size)
  generalize hAe : va_A [(m0, .inr (5, [.ref mw, .int (bi im), .ref mt, .int (nI tl), .ref ml, .ref mz, .ref mi, .ref mr, .int (nI at0), .int (nI st0), .int (nI nu), .int (nI rm), .int (nI rh), .ref md, .ref mh])), (mw, .inl (cI, 480, .inl (nA Bw)))] s.heap.size = A at hD ⊢
  have hA : ∀ q : Nat, s.heap.size ≤ q → A q := fun q h => by rw [← hAe]; exact Or.inr h
  have hS : va_S A s.heap s.heap [] := va_S.rf
  have hP : va_P (dC, dI) vwCl [(m0, .inr (5, [.ref mw, .int (bi im), .ref mt, .int (nI tl), .ref ml, .ref mz, .ref mi, .ref mr, .int (nI at0), .int (nI st0), .int (nI nu), .int (nI rm), .int (nI rh), .ref md, .ref mh])), (mw, .inl (cI, 480, .inl (nA Bw)))] s.heap := hP
  have hiX5 : ∀ w ∈ wsX50, w ∈ wsX5_adds := by decide +kernel
  have hl := lv_entry ([.ref m0, .int (nI r), .int (nI o)]) (n := 4) (Nat.le_of_ble_eq_true rfl)
  rw [lg_entry_eq]
  generalize (lg_sl ([.ref m0, .int (nI r), .int (nI o)]) ++ List.replicate (4 - (lg_sl ([.ref m0, .int (nI r), .int (nI o)])).length) Slot.unset).toArray = ls at hl ⊢
  have hl : lv_has ls 4 [(0, .ref m0), (1, .int (nI r)), (2, .int (nI o))] := hl
  have hn6 := hm.n
  refine lv_iconst (v := (nI 0)) hx hb dX5_adds_0 (by decide) ?_
  refine lv_istore_n (lv' := [(3, .int (nI 0)), (0, .ref m0), (1, .int (nI r)), (2, .int (nI o))]) hx hb dX5_adds_1 rfl hl (by decide) rfl (fun ls hl => ?_)
  have ec : nA Bw = nA (rwB r (adF (kdB Bw) (wdB Bw) (rsB Bw) r o) 0 Bw) := rwB_0 _ _ _
  rw [ec] at hP hD
  have hP : va_P (dC, dI) vwCl [(m0, .inr (5, [.ref mw, .int (bi im), .ref mt, .int (nI tl), .ref ml, .ref mz, .ref mi, .ref mr, .int (nI at0), .int (nI st0), .int (nI nu), .int (nI rm), .int (nI rh), .ref md, .ref mh])), (mw, .inl (cI, 480, .inl (nA (rwB r (adF (kdB Bw) (wdB Bw) (rsB Bw) r o) 0 Bw))))] s.heap := hP
  have hD : va_D A [(m0, .inr (5, [.ref mw, .int (bi im), .ref mt, .int (nI tl), .ref ml, .ref mz, .ref mi, .ref mr, .int (nI at0), .int (nI st0), .int (nI nu), .int (nI rm), .int (nI rh), .ref md, .ref mh])), (mw, .inl (cI, 480, .inl (nA (rwB r (adF (kdB Bw) (wdB Bw) (rsB Bw) r o) 0 Bw))))] := hD
  refine rlW1 (A1 := Nat) (fun H locs ls => W p l e _ s m _ below meth c H locs 0 0 _ (F0 m 2 ls [])) (fun k H locs ls => k ≤ Bw 0 ∧ va_P (dC, dI) vwCl [(m0, .inr (5, [.ref mw, .int (bi im), .ref mt, .int (nI tl), .ref ml, .ref mz, .ref mi, .ref mr, .int (nI at0), .int (nI st0), .int (nI nu), .int (nI rm), .int (nI rh), .ref md, .ref mh])), (mw, .inl (cI, 480, .inl (nA (rwB r (adF (kdB Bw) (wdB Bw) (rsB Bw) r o) k Bw))))] H ∧ va_D A [(m0, .inr (5, [.ref mw, .int (bi im), .ref mt, .int (nI tl), .ref ml, .ref mz, .ref mi, .ref mr, .int (nI at0), .int (nI st0), .int (nI nu), .int (nI rm), .int (nI rh), .ref md, .ref mh])), (mw, .inl (cI, 480, .inl (nA (rwB r (adF (kdB Bw) (wdB Bw) (rsB Bw) r o) k Bw))))] ∧ va_S A s.heap H locs ∧ lv_has ls 4 [(3, .int (nI k)), (0, .ref m0), (1, .int (nI r)), (2, .int (nI o))]) (fun k => Bw 0 - k) ?_ 0 _ _ ls ⟨by omega, hP, hD, hS, lv_sub hl [0, 1, 2, 3] rfl⟩
  rintro k H locs ls ⟨hi, hP, hD, hS, hl⟩ ih2
  refine lv_iload_n hx hb dX5_adds_2 rfl (lv_at hl 0 rfl) ?_
  refine lv_aload_n hx hb dX5_adds_3 rfl (lv_at hl 1 rfl) ?_
  refine va_get (D := (dC, dI)) (ci := 5) (v := .ref mw) (C := RX5) (T := TX5) (N := 15) hx hb hts hiX5 hown hK hP 0 rfl rfl 0 (by decide) (hts (.fieldLink RX5 7 "RestRegistersModel" "w" "[I") (by decide +kernel)) (fun _ h9 => h9) rfl dX5_adds_4 ?_
  refine lv_iconst (v := (nI 0)) hx hb dX5_adds_7 (by decide) ?_
  refine rn_iald hx hb hK hP 1 0 rfl rfl (i := 0) (by omega) (by decide) (v := (nI (Bw 0))) (congrArg nI (rwB_lo (by omega))) dX5_adds_8 ?_
  refine rn_icmp_ge (tgt := 65) hx hb dX5_adds_9 (by decide) (by omega) (by omega) (fun c9 => ?_) (fun c9 => ?_)
  · skip
    have ek : k = Bw 0 := Nat.le_antisymm hi c9
    subst ek
    have hP : va_P (dC, dI) vwCl [(m0, .inr (5, [.ref mw, .int (bi im), .ref mt, .int (nI tl), .ref ml, .ref mz, .ref mi, .ref mr, .int (nI at0), .int (nI st0), .int (nI nu), .int (nI rm), .int (nI rh), .ref md, .ref mh])), (mw, .inl (cI, 480, .inl (nA (rwB r (adF (kdB Bw) (wdB Bw) (rsB Bw) r o) (Bw 0) Bw))))] H := hP
    have hD : va_D A [(m0, .inr (5, [.ref mw, .int (bi im), .ref mt, .int (nI tl), .ref ml, .ref mz, .ref mi, .ref mr, .int (nI at0), .int (nI st0), .int (nI nu), .int (nI rm), .int (nI rh), .ref md, .ref mh])), (mw, .inl (cI, 480, .inl (nA (rwB r (adF (kdB Bw) (wdB Bw) (rsB Bw) r o) (Bw 0) Bw))))] := hD
    exact rr_vretW hx hb hr hlocks dX5_adds_65 hP hD hS
  refine lv_aload_n hx hb dX5_adds_12 rfl (lv_at hl 1 rfl) ?_
  refine va_get (D := (dC, dI)) (ci := 5) (v := .ref mw) (C := RX5) (T := TX5) (N := 15) hx hb hts hiX5 hown hK hP 0 rfl rfl 0 (by decide) (hts (.fieldLink RX5 7 "RestRegistersModel" "w" "[I") (by decide +kernel)) (fun _ h9 => h9) rfl dX5_adds_13 ?_
  refine lv_bipush (v := (nI 15)) hx hb dX5_adds_16 (by decide) ?_
  refine lv_bipush (v := (nI 6)) hx hb dX5_adds_18 (by decide) ?_
  refine lv_iload_n hx hb dX5_adds_20 rfl (lv_at hl 2 rfl) ?_
  refine rn_imul hx hb dX5_adds_21 ?_
  refine rn_iadd hx hb dX5_adds_22 ?_
  refine lv_iload_n hx hb dX5_adds_23 rfl (lv_at hl 0 rfl) ?_
  refine rn_iadd hx hb dX5_adds_24 ?_
  refine lv_aload_n hx hb dX5_adds_25 rfl (lv_at hl 1 rfl) ?_
  refine lv_iload_n hx hb dX5_adds_26 rfl (lv_at hl 0 rfl) ?_
  refine lv_aload_n hx hb dX5_adds_27 rfl (lv_at hl 1 rfl) ?_
  refine va_get (D := (dC, dI)) (ci := 5) (v := .ref mw) (C := RX5) (T := TX5) (N := 15) hx hb hts hiX5 hown hK hP 0 rfl rfl 0 (by decide) (hts (.fieldLink RX5 7 "RestRegistersModel" "w" "[I") (by decide +kernel)) (fun _ h9 => h9) rfl dX5_adds_28 ?_
  refine lv_bipush (v := (nI 15)) hx hb dX5_adds_31 (by decide) ?_
  refine lv_bipush (v := (nI 6)) hx hb dX5_adds_33 (by decide) ?_
  refine lv_iload_n hx hb dX5_adds_35 rfl (lv_at hl 2 rfl) ?_
  refine rn_imul hx hb dX5_adds_36 ?_
  refine rn_iadd hx hb dX5_adds_37 ?_
  refine lv_iload_n hx hb dX5_adds_38 rfl (lv_at hl 0 rfl) ?_
  refine rn_iadd hx hb dX5_adds_39 ?_
  refine rn_iald hx hb hK hP 1 0 rfl rfl (i := 15 + (6 * r) + k) (by omega) (by decide) (v := (nI (rsB Bw (r * 6 + k)))) (rwB_at (by omega)) dX5_adds_40 ?_
  refine lv_aload_n hx hb dX5_adds_41 rfl (lv_at hl 1 rfl) ?_
  refine va_get (D := (dC, dI)) (ci := 5) (v := .ref mw) (C := RX5) (T := TX5) (N := 15) hx hb hts hiX5 hown hK hP 0 rfl rfl 0 (by decide) (hts (.fieldLink RX5 7 "RestRegistersModel" "w" "[I") (by decide +kernel)) (fun _ h9 => h9) rfl dX5_adds_42 ?_
  refine lv_bipush (v := (nI 15)) hx hb dX5_adds_45 (by decide) ?_
  refine lv_bipush (v := (nI 6)) hx hb dX5_adds_47 (by decide) ?_
  refine lv_iload_n hx hb dX5_adds_49 rfl (lv_at hl 3 rfl) ?_
  refine rn_imul hx hb dX5_adds_50 ?_
  refine rn_iadd hx hb dX5_adds_51 ?_
  refine lv_iload_n hx hb dX5_adds_52 rfl (lv_at hl 0 rfl) ?_
  refine rn_iadd hx hb dX5_adds_53 ?_
  refine rn_iald hx hb hK hP 1 0 rfl rfl (i := 15 + (6 * o) + k) (by omega) (by decide) (v := (nI (rsB Bw (o * 6 + k)))) (rwB_at (by omega)) dX5_adds_54 ?_
  refine rr_callR (va_runV (As := [.int (nI k), .int (nI (rsB Bw (r * 6 + k))), .int (nI (rsB Bw (o * 6 + k)))]) (rest := [.int (nI (15 + (6 * r) + k)), .ref mw]) ⟨hx, hb, hml, hown, hts⟩ (c_X5_added l dC dI cI cJ cS m0 mw mt ml mz mi mr md mh im tl at0 st0 nu rm rh (rwB r (adF (kdB Bw) (wdB Bw) (rsB Bw) r o) k Bw) k (rsB Bw (r * 6 + k)) (rsB Bw (o * 6 + k)) (kdB Bw k) (wdB Bw k) (rwB_lo (by omega)) (rwB_lo (by omega)) (hm.kd k (by omega)) ((hm.wd k (by omega)).1) ((hm.wd k (by omega)).2) (by first | assumption | omega) (hm.row hr4 k (by omega)) (hm.row ho4 k (by omega))) (cwV 3 hts gX5_adds_X5_added rfl rfl rfl (by decide +kernel) ⟨Nat.le_of_ble_eq_true rfl, Nat.le_of_ble_eq_true rfl⟩) (rr_preV hKK hP rfl rfl) rfl rfl hl.1 rfl (lv_room (Nat.le_of_ble_eq_true rfl)) dX5_adds_55 ⟨Nat.zero_le _, Nat.zero_le _⟩) ?_
  refine rn_iast hx hb hK hP hD hS 1 0 rfl rfl (i := 15 + (6 * r) + k) (by omega) (by decide) (g := nA (uN (rwB r (adF (kdB Bw) (wdB Bw) (rsB Bw) r o) k Bw) (15 + (6 * r) + k) (addK (kdB Bw k) (wdB Bw k) (rsB Bw (r * 6 + k)) (rsB Bw (o * 6 + k))))) (nA_upd _ _ _) dX5_adds_58 (fun H locs hP hD hS => ?_)
  have hP : va_P (dC, dI) vwCl [(m0, .inr (5, [.ref mw, .int (bi im), .ref mt, .int (nI tl), .ref ml, .ref mz, .ref mi, .ref mr, .int (nI at0), .int (nI st0), .int (nI nu), .int (nI rm), .int (nI rh), .ref md, .ref mh])), (mw, .inl (cI, 480, .inl (nA (uN (rwB r (adF (kdB Bw) (wdB Bw) (rsB Bw) r o) k Bw) (15 + (6 * r) + k) (addK (kdB Bw k) (wdB Bw k) (rsB Bw (r * 6 + k)) (rsB Bw (o * 6 + k)))))))] H := hP
  have hD : va_D A [(m0, .inr (5, [.ref mw, .int (bi im), .ref mt, .int (nI tl), .ref ml, .ref mz, .ref mi, .ref mr, .int (nI at0), .int (nI st0), .int (nI nu), .int (nI rm), .int (nI rh), .ref md, .ref mh])), (mw, .inl (cI, 480, .inl (nA (uN (rwB r (adF (kdB Bw) (wdB Bw) (rsB Bw) r o) k Bw) (15 + (6 * r) + k) (addK (kdB Bw k) (wdB Bw k) (rsB Bw (r * 6 + k)) (rsB Bw (o * 6 + k)))))))] := hD
  have ec : nA (uN (rwB r (adF (kdB Bw) (wdB Bw) (rsB Bw) r o) k Bw) (15 + (6 * r) + k) (addK (kdB Bw k) (wdB Bw k) (rsB Bw (r * 6 + k)) (rsB Bw (o * 6 + k)))) = nA (rwB r (adF (kdB Bw) (wdB Bw) (rsB Bw) r o) (k + 1) Bw) := rwB_s (rfl)
  rw [ec] at hP hD
  have hP : va_P (dC, dI) vwCl [(m0, .inr (5, [.ref mw, .int (bi im), .ref mt, .int (nI tl), .ref ml, .ref mz, .ref mi, .ref mr, .int (nI at0), .int (nI st0), .int (nI nu), .int (nI rm), .int (nI rh), .ref md, .ref mh])), (mw, .inl (cI, 480, .inl (nA (rwB r (adF (kdB Bw) (wdB Bw) (rsB Bw) r o) (k + 1) Bw))))] H := hP
  have hD : va_D A [(m0, .inr (5, [.ref mw, .int (bi im), .ref mt, .int (nI tl), .ref ml, .ref mz, .ref mi, .ref mr, .int (nI at0), .int (nI st0), .int (nI nu), .int (nI rm), .int (nI rh), .ref md, .ref mh])), (mw, .inl (cI, 480, .inl (nA (rwB r (adF (kdB Bw) (wdB Bw) (rsB Bw) r o) (k + 1) Bw))))] := hD
  refine lv_iinc (v := (nI (k + 1))) (lv' := [(3, .int (nI (k + 1))), (0, .ref m0), (1, .int (nI r)), (2, .int (nI o))]) hx hb dX5_adds_59 hl (k := 0) rfl (rn_inc k 1) (by decide) rfl (fun ls hl => ?_)
  refine lv_goto (tgt := 2) hx hb dX5_adds_62 (by decide) ?_
  exact ih2 (k + 1) _ _ ls ⟨by omega, hP, hD, hS, lv_sub hl [0, 1, 2, 3] rfl⟩ (by omega)
