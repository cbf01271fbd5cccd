set_option maxHeartbeats 4000000 in
set_option maxRecDepth 100000 in
theorem c_X5_here (l : Launch) (dC : Nat → ClassId) (dI : Nat → Nat → Nat) (cI cJ cS : ClassId) (m0 mw mt ml mz mi mr md mh : Nat) (im : Bool) (tl at0 st0 nu rm rh : Nat) (Tp : Nat → Nat) (ht : tpOk Tp tl) (hp : at0 ≤ tl) : Met l yX5_here wsX5_here ({ frames := 0, cells := 0, slots := 0, locals := 0 }) (va_Pc [.ref m0] (rB (dC, dI) vwCl [(m0, .inr (5, [.ref mw, .int (bi im), .ref mt, .int (nI tl), .ref ml, .ref mz, .ref mi, .ref mr, .int (nI at0), .int (nI st0), .int (nI nu), .int (nI rm), .int (nI rh), .ref md, .ref mh])), (mt, .inl (cI, 40, .inl (nA Tp)))] (tyz cI cJ cS))) (QcRead (lkI Tp tl at0)) 0 0 (fun _ => False) := by
  refine Met.ofW (cc := cX5_here) (maxL := 1) (ret := (some .int)) (by decide) rfl ?_
  intro p e s m args below meth c s₁ B hml hv
  obtain ⟨rfl, hP, hKK⟩ := hv
  have hK := hKK.1
  have hx := B.exec
  have hb := B.bytes
  have hr := B.returns
  have hts := atoms_spec (ws := wsX5_here) B.pre
  have hown : s.vm.findClass RX5 = some m.cls := findClass_of_methodNamed B.named
  have hlocks := B.notSynchronized
  have hiX5 : ∀ w ∈ wsX50, w ∈ wsX5_here := by decide +kernel
  have hl := lv_entry ([.ref m0]) (n := 1) (Nat.le_of_ble_eq_true rfl)
  rw [lg_entry_eq]
  generalize (lg_sl ([.ref m0]) ++ List.replicate (1 - (lg_sl ([.ref m0])).length) Slot.unset).toArray = ls at hl ⊢
  have hl : lv_has ls 1 [(0, .ref m0)] := hl
  have h40 := ht.1
  refine lv_aload_n hx hb dX5_here_0 rfl (lv_at hl 0 rfl) ?_
  refine va_get (D := (dC, dI)) (ci := 5) (v := .int (nI at0)) (C := RX5) (T := TX5) (N := 15) hx hb hts hiX5 hown hK hP 0 rfl rfl 8 (by decide) (hts (.fieldLink RX5 81 "RestRegistersModel" "at" "I") (by decide +kernel)) (fun _ h9 => h9) rfl dX5_here_1 ?_
  refine lv_aload_n hx hb dX5_here_4 rfl (lv_at hl 0 rfl) ?_
  refine va_get (D := (dC, dI)) (ci := 5) (v := .int (nI tl)) (C := RX5) (T := TX5) (N := 15) hx hb hts hiX5 hown hK hP 0 rfl rfl 3 (by decide) (hts (.fieldLink RX5 77 "RestRegistersModel" "taped" "I") (by decide +kernel)) (fun _ h9 => h9) rfl dX5_here_5 ?_
  refine rn_icmp_ge (tgt := 23) hx hb dX5_here_8 (by decide) (by omega) (by omega) (fun c8 => ?_) (fun c8 => ?_)
  · skip
    refine lv_iconst (v := (-1)) hx hb dX5_here_23 (by decide) ?_
    exact rr_iret hx hb hr hlocks dX5_here_24 (by first | (rw [lkI_t (by omega)]; done) | (rw [lkI_f (by omega)]))
  refine lv_aload_n hx hb dX5_here_11 rfl (lv_at hl 0 rfl) ?_
  refine va_get (D := (dC, dI)) (ci := 5) (v := .ref mt) (C := RX5) (T := TX5) (N := 15) hx hb hts hiX5 hown hK hP 0 rfl rfl 2 (by decide) (hts (.fieldLink RX5 13 "RestRegistersModel" "tape" "[I") (by decide +kernel)) (fun _ h9 => h9) rfl dX5_here_12 ?_
  refine lv_aload_n hx hb dX5_here_15 rfl (lv_at hl 0 rfl) ?_
  refine va_get (D := (dC, dI)) (ci := 5) (v := .int (nI at0)) (C := RX5) (T := TX5) (N := 15) hx hb hts hiX5 hown hK hP 0 rfl rfl 8 (by decide) (hts (.fieldLink RX5 81 "RestRegistersModel" "at" "I") (by decide +kernel)) (fun _ h9 => h9) rfl dX5_here_16 ?_
  refine rn_iald hx hb hK hP 1 0 rfl rfl (i := at0) (by omega) (by decide) (v := (nI (Tp at0))) rfl dX5_here_19 ?_
  refine lv_goto (tgt := 24) hx hb dX5_here_20 (by decide) ?_
  exact rr_iret hx hb hr hlocks dX5_here_24 (by first | (rw [lkI_t (by omega)]; done) | (rw [lkI_f (by omega)]))
set_option maxHeartbeats 4000000 in
set_option maxRecDepth 100000 in
theorem c_X5_blanks (l : Launch) (dC : Nat → ClassId) (dI : Nat → Nat → Nat) (cI cJ cS : ClassId) (sz : Nat) (m0 mw mt ml mz mi mr md mh : Nat) (im : Bool) (tl at0 st0 nu rm rh : Nat) (Tp : Nat → Nat) (ht : tpOk Tp tl) (hp : at0 ≤ tl) : Met l yX5_blanks wsX5_blanks ({ frames := 0, cells := 0, slots := 0, locals := 0 }) (va_Pc [.ref m0] (rW (dC, dI) vwCl [(m0, .inr (5, [.ref mw, .int (bi im), .ref mt, .int (nI tl), .ref ml, .ref mz, .ref mi, .ref mr, .int (nI at0), .int (nI st0), .int (nI nu), .int (nI rm), .int (nI rh), .ref md, .ref mh])), (mt, .inl (cI, 40, .inl (nA Tp)))] (tyz cI cJ cS) sz)) (qV (dC, dI) vwCl [(m0, .inr (5, [.ref mw, .int (bi im), .ref mt, .int (nI tl), .ref ml, .ref mz, .ref mi, .ref mr, .int (nI (skq Tp tl at0)), .int (nI (skq Tp tl at0)), .int (nI nu), .int (nI rm), .int (nI rh), .ref md, .ref mh])), (mt, .inl (cI, 40, .inl (nA Tp)))] (va_A [(m0, .inr (5, [.ref mw, .int (bi im), .ref mt, .int (nI tl), .ref ml, .ref mz, .ref mi, .ref mr, .int (nI at0), .int (nI st0), .int (nI nu), .int (nI rm), .int (nI rh), .ref md, .ref mh])), (mt, .inl (cI, 40, .inl (nA Tp)))] sz)) 0 0 (va_A [(m0, .inr (5, [.ref mw, .int (bi im), .ref mt, .int (nI tl), .ref ml, .ref mz, .ref mi, .ref mr, .int (nI at0), .int (nI st0), .int (nI nu), .int (nI rm), .int (nI rh), .ref md, .ref mh])), (mt, .inl (cI, 40, .inl (nA Tp)))] sz) := by
  refine Met.ofW (cc := cX5_blanks) (maxL := 1) (ret := none) (by decide) rfl ?_
  intro p e s m args below meth c s₁ B hml hv
  obtain ⟨rfl, hsz, hP, hKK, hD0⟩ := hv
  have hK := hKK.1
  have hx := B.exec
  have hb := B.bytes
  have hr := B.returns
  have hts := atoms_spec (ws := wsX5_blanks) B.pre
  have hown : s.vm.findClass RX5 = some m.cls := findClass_of_methodNamed B.named
  have hlocks := B.notSynchronized
  subst hsz
  have hD := hD0.self (sz := s.heap.size)
  generalize hAe : va_A [(m0, .inr (5, [.ref mw, .int (bi im), .ref mt, .int (nI tl), .ref ml, .ref mz, .ref mi, .ref mr, .int (nI at0), .int (nI st0), .int (nI nu), .int (nI rm), .int (nI rh), .ref md, .ref mh])), (mt, .inl (cI, 40, .inl (nA Tp)))] s.heap.size = A at hD ⊢
  have hA : ∀ q : Nat, s.heap.size ≤ q → A q := fun q h => by rw [← hAe]; exact Or.inr h
  have hS : va_S A s.heap s.heap [] := va_S.rf
  have hP : va_P (dC, dI) vwCl [(m0, .inr (5, [.ref mw, .int (bi im), .ref mt, .int (nI tl), .ref ml, .ref mz, .ref mi, .ref mr, .int (nI at0), .int (nI st0), .int (nI nu), .int (nI rm), .int (nI rh), .ref md, .ref mh])), (mt, .inl (cI, 40, .inl (nA Tp)))] s.heap := hP
  have hiX5 : ∀ w ∈ wsX50, w ∈ wsX5_blanks := by decide +kernel
  have hl := lv_entry ([.ref m0]) (n := 1) (Nat.le_of_ble_eq_true rfl)
  rw [lg_entry_eq]
  generalize (lg_sl ([.ref m0]) ++ List.replicate (1 - (lg_sl ([.ref m0])).length) Slot.unset).toArray = ls at hl ⊢
  have hl : lv_has ls 1 [(0, .ref m0)] := hl
  have h40 := ht.1
  refine rlW1 (A1 := Nat) (fun H locs ls => W p l e _ s m _ below meth c H locs 0 0 _ (F0 m 0 ls [])) (fun q H locs ls => skq Tp tl at0 = skq Tp tl q ∧ q ≤ tl ∧ va_P (dC, dI) vwCl [(m0, .inr (5, [.ref mw, .int (bi im), .ref mt, .int (nI tl), .ref ml, .ref mz, .ref mi, .ref mr, .int (nI q), .int (nI st0), .int (nI nu), .int (nI rm), .int (nI rh), .ref md, .ref mh])), (mt, .inl (cI, 40, .inl (nA Tp)))] H ∧ va_D A [(m0, .inr (5, [.ref mw, .int (bi im), .ref mt, .int (nI tl), .ref ml, .ref mz, .ref mi, .ref mr, .int (nI q), .int (nI st0), .int (nI nu), .int (nI rm), .int (nI rh), .ref md, .ref mh])), (mt, .inl (cI, 40, .inl (nA Tp)))] ∧ va_S A s.heap H locs ∧ lv_has ls 1 [(0, .ref m0)]) (fun q => tl - q) ?_ at0 _ _ ls ⟨rfl, by omega, hP, hD, hS, lv_sub hl [0] rfl⟩
  rintro q H locs ls ⟨hq, hq2, hP, hD, hS, hl⟩ ih0
  refine lv_aload_n hx hb dX5_blanks_0 rfl (lv_at hl 0 rfl) ?_
  refine va_get (D := (dC, dI)) (ci := 5) (v := .int (nI q)) (C := RX5) (T := TX5) (N := 15) hx hb hts hiX5 hown hK hP 0 rfl rfl 8 (by decide) (hts (.fieldLink RX5 81 "RestRegistersModel" "at" "I") (by decide +kernel)) (fun _ h9 => h9) rfl dX5_blanks_1 ?_
  refine lv_aload_n hx hb dX5_blanks_4 rfl (lv_at hl 0 rfl) ?_
  refine va_get (D := (dC, dI)) (ci := 5) (v := .int (nI tl)) (C := RX5) (T := TX5) (N := 15) hx hb hts hiX5 hown hK hP 0 rfl rfl 3 (by decide) (hts (.fieldLink RX5 77 "RestRegistersModel" "taped" "I") (by decide +kernel)) (fun _ h9 => h9) rfl dX5_blanks_5 ?_
  refine rn_icmp_ge (tgt := 38) hx hb dX5_blanks_8 (by decide) (by omega) (by omega) (fun c8 => ?_) (fun c8 => ?_)
  · skip
    have eq : skq Tp tl at0 = q := hq.trans (skq_n (fun z => by first | exact absurd z.1 (by omega) | exact absurd z.2 c22))
    rw [eq]
    refine lv_aload_n hx hb dX5_blanks_38 rfl (lv_at hl 0 rfl) ?_
    refine lv_aload_n hx hb dX5_blanks_39 rfl (lv_at hl 0 rfl) ?_
    refine va_get (D := (dC, dI)) (ci := 5) (v := .int (nI q)) (C := RX5) (T := TX5) (N := 15) hx hb hts hiX5 hown hK hP 0 rfl rfl 8 (by decide) (hts (.fieldLink RX5 81 "RestRegistersModel" "at" "I") (by decide +kernel)) (fun _ h9 => h9) rfl dX5_blanks_40 ?_
    refine va_put (D := (dC, dI)) (ci := 5) (v := .int (nI q)) (ty := .int) (C := RX5) (T := TX5) (N := 15) hx hb hts hiX5 tyX5 tyX5_ok nmX5 hown hK hP hD hS 0 rfl rfl 9 (by decide) (hts (.fieldLink RX5 84 "RestRegistersModel" "start" "I") (by decide +kernel)) (fun _ h9 => h9) rfl (by decide +kernel) rfl rfl (Nat.le_of_ble_eq_true rfl) dX5_blanks_43 (fun H locs hP hD hS => ?_)
    have hP : va_P (dC, dI) vwCl [(m0, .inr (5, [.ref mw, .int (bi im), .ref mt, .int (nI tl), .ref ml, .ref mz, .ref mi, .ref mr, .int (nI q), .int (nI q), .int (nI nu), .int (nI rm), .int (nI rh), .ref md, .ref mh])), (mt, .inl (cI, 40, .inl (nA Tp)))] H := hP
    have hD : va_D A [(m0, .inr (5, [.ref mw, .int (bi im), .ref mt, .int (nI tl), .ref ml, .ref mz, .ref mi, .ref mr, .int (nI q), .int (nI q), .int (nI nu), .int (nI rm), .int (nI rh), .ref md, .ref mh])), (mt, .inl (cI, 40, .inl (nA Tp)))] := hD
    exact rr_vretW hx hb hr hlocks dX5_blanks_46 hP hD hS
  refine lv_aload_n hx hb dX5_blanks_11 rfl (lv_at hl 0 rfl) ?_
  refine va_get (D := (dC, dI)) (ci := 5) (v := .ref mt) (C := RX5) (T := TX5) (N := 15) hx hb hts hiX5 hown hK hP 0 rfl rfl 2 (by decide) (hts (.fieldLink RX5 13 "RestRegistersModel" "tape" "[I") (by decide +kernel)) (fun _ h9 => h9) rfl dX5_blanks_12 ?_
  refine lv_aload_n hx hb dX5_blanks_15 rfl (lv_at hl 0 rfl) ?_
  refine va_get (D := (dC, dI)) (ci := 5) (v := .int (nI q)) (C := RX5) (T := TX5) (N := 15) hx hb hts hiX5 hown hK hP 0 rfl rfl 8 (by decide) (hts (.fieldLink RX5 81 "RestRegistersModel" "at" "I") (by decide +kernel)) (fun _ h9 => h9) rfl dX5_blanks_16 ?_
  refine rn_iald hx hb hK hP 1 0 rfl rfl (i := q) (by omega) (by decide) (v := (nI (Tp q))) rfl dX5_blanks_19 ?_
  have hch := ht.2 q (by omega)
  refine lv_bipush (v := (nI 32)) hx hb dX5_blanks_20 (by decide) ?_
  refine rn_icmp_ne (tgt := 38) hx hb dX5_blanks_22 (by decide) (by omega) (by omega) (fun c22 => ?_) (fun c22 => ?_)
  · skip
    have eq : skq Tp tl at0 = q := hq.trans (skq_n (fun z => by first | exact absurd z.1 (by omega) | exact absurd z.2 c22))
    rw [eq]
    refine lv_aload_n hx hb dX5_blanks_38 rfl (lv_at hl 0 rfl) ?_
    refine lv_aload_n hx hb dX5_blanks_39 rfl (lv_at hl 0 rfl) ?_
    refine va_get (D := (dC, dI)) (ci := 5) (v := .int (nI q)) (C := RX5) (T := TX5) (N := 15) hx hb hts hiX5 hown hK hP 0 rfl rfl 8 (by decide) (hts (.fieldLink RX5 81 "RestRegistersModel" "at" "I") (by decide +kernel)) (fun _ h9 => h9) rfl dX5_blanks_40 ?_
    refine va_put (D := (dC, dI)) (ci := 5) (v := .int (nI q)) (ty := .int) (C := RX5) (T := TX5) (N := 15) hx hb hts hiX5 tyX5 tyX5_ok nmX5 hown hK hP hD hS 0 rfl rfl 9 (by decide) (hts (.fieldLink RX5 84 "RestRegistersModel" "start" "I") (by decide +kernel)) (fun _ h9 => h9) rfl (by decide +kernel) rfl rfl (Nat.le_of_ble_eq_true rfl) dX5_blanks_43 (fun H locs hP hD hS => ?_)
    have hP : va_P (dC, dI) vwCl [(m0, .inr (5, [.ref mw, .int (bi im), .ref mt, .int (nI tl), .ref ml, .ref mz, .ref mi, .ref mr, .int (nI q), .int (nI q), .int (nI nu), .int (nI rm), .int (nI rh), .ref md, .ref mh])), (mt, .inl (cI, 40, .inl (nA Tp)))] H := hP
    have hD : va_D A [(m0, .inr (5, [.ref mw, .int (bi im), .ref mt, .int (nI tl), .ref ml, .ref mz, .ref mi, .ref mr, .int (nI q), .int (nI q), .int (nI nu), .int (nI rm), .int (nI rh), .ref md, .ref mh])), (mt, .inl (cI, 40, .inl (nA Tp)))] := hD
    exact rr_vretW hx hb hr hlocks dX5_blanks_46 hP hD hS
  refine lv_aload_n hx hb dX5_blanks_25 rfl (lv_at hl 0 rfl) ?_
  refine lv_dup hx hb dX5_blanks_26 rfl ?_
  refine va_get (D := (dC, dI)) (ci := 5) (v := .int (nI q)) (C := RX5) (T := TX5) (N := 15) hx hb hts hiX5 hown hK hP 0 rfl rfl 8 (by decide) (hts (.fieldLink RX5 81 "RestRegistersModel" "at" "I") (by decide +kernel)) (fun _ h9 => h9) rfl dX5_blanks_27 ?_
  refine lv_iconst (v := (nI 1)) hx hb dX5_blanks_30 (by decide) ?_
  refine rn_iadd hx hb dX5_blanks_31 ?_
  refine va_put (D := (dC, dI)) (ci := 5) (v := .int (nI (q + 1))) (ty := .int) (C := RX5) (T := TX5) (N := 15) hx hb hts hiX5 tyX5 tyX5_ok nmX5 hown hK hP hD hS 0 rfl rfl 8 (by decide) (hts (.fieldLink RX5 81 "RestRegistersModel" "at" "I") (by decide +kernel)) (fun _ h9 => h9) rfl (by decide +kernel) rfl rfl (Nat.le_of_ble_eq_true rfl) dX5_blanks_32 (fun H locs hP hD hS => ?_)
  have hP : va_P (dC, dI) vwCl [(m0, .inr (5, [.ref mw, .int (bi im), .ref mt, .int (nI tl), .ref ml, .ref mz, .ref mi, .ref mr, .int (nI (q + 1)), .int (nI st0), .int (nI nu), .int (nI rm), .int (nI rh), .ref md, .ref mh])), (mt, .inl (cI, 40, .inl (nA Tp)))] H := hP
  have hD : va_D A [(m0, .inr (5, [.ref mw, .int (bi im), .ref mt, .int (nI tl), .ref ml, .ref mz, .ref mi, .ref mr, .int (nI (q + 1)), .int (nI st0), .int (nI nu), .int (nI rm), .int (nI rh), .ref md, .ref mh])), (mt, .inl (cI, 40, .inl (nA Tp)))] := hD
  refine lv_goto (tgt := 0) hx hb dX5_blanks_35 (by decide) ?_
  exact ih0 (q + 1) _ _ ls ⟨hq.trans (skq_s (by omega) c22), by omega, hP, hD, hS, lv_sub hl [0] rfl⟩ (by omega)
set_option maxHeartbeats 4000000 in
set_option maxRecDepth 100000 in
theorem c_X5_mayBeWide (l : Launch) (dC : Nat → ClassId) (dI : Nat → Nat → Nat) (cI cJ cS : ClassId) (m0 mw mt ml mz mi mr md mh : Nat) (im : Bool) (tl at0 st0 nu rm rh : Nat) (Rd : Nat → Nat) (x : Nat) (ok : wOk rm (rdK Rd) (rdW Rd)) (hrm : rm < 6) (hx2 : x < 2 ^ 31) : Met l yX5_mayBeWide wsX5_mayBeWide ({ frames := 1, cells := 0, slots := 0, locals := 25 }) (va_Pc [.ref m0, .int (nI x)] (rB (dC, dI) vwCl [(m0, .inr (5, [.ref mw, .int (bi im), .ref mt, .int (nI tl), .ref ml, .ref mz, .ref mi, .ref mr, .int (nI at0), .int (nI st0), .int (nI nu), .int (nI rm), .int (nI rh), .ref md, .ref mh])), (md, .inl (cI, 12, .inl (nA Rd)))] (tyz cI cJ cS))) (QcRead (bi (mayB rm (rdW Rd) x))) 0 0 (fun _ => False) := by
  refine Met.ofW (cc := cX5_mayBeWide) (maxL := 4) (ret := (some .boolean)) (by decide) rfl ?_
  intro p e s m args below meth c s₁ B hml hv
  obtain ⟨rfl, hP, hKK⟩ := hv
  have hK := hKK.1
  have hx := B.exec
  have hb := B.bytes
  have hr := B.returns
  have hts := atoms_spec (ws := wsX5_mayBeWide) B.pre
  have hown : s.vm.findClass RX5 = some m.cls := findClass_of_methodNamed B.named
  have hlocks := B.notSynchronized
  have hiX5 : ∀ w ∈ wsX50, w ∈ wsX5_mayBeWide := by decide +kernel
  have hl := lv_entry ([.ref m0, .int (nI x)]) (n := 4) (Nat.le_of_ble_eq_true rfl)
  rw [lg_entry_eq]
  generalize (lg_sl ([.ref m0, .int (nI x)]) ++ List.replicate (4 - (lg_sl ([.ref m0, .int (nI x)])).length) Slot.unset).toArray = ls at hl ⊢
  have hl : lv_has ls 4 [(0, .ref m0), (1, .int (nI x))] := hl
  refine lv_iload_n hx hb dX5_mayBeWide_0 rfl (lv_at hl 1 rfl) ?_
  refine lv_i2l hx hb dX5_mayBeWide_1 rfl ?_
  refine lv_ldc2 (v := 2) hx hb hown (hts (.constantLong RX5 87 (2)) (by decide +kernel)) dX5_mayBeWide_2 ?_
  refine lv_ldc2 (v := 19) hx hb hown (hts (.constantLong RX5 89 (19)) (by decide +kernel)) dX5_mayBeWide_5 ?_
  refine rr_callR (va_runS (As := [.long ((nI x).toInt64), .long 2, .long 19]) (rest := []) ⟨hx, hb, hml, hown, hts⟩ (c_X5_in l ((nI x).toInt64) 2 19 ) (va_cwS 3 hts gX5_mayBeWide_X5_in rfl rfl rfl (by decide +kernel) ⟨Nat.le_of_ble_eq_true rfl, Nat.le_of_ble_eq_true rfl⟩) rr_preT rfl rfl hl.1 rfl (lv_room (Nat.le_of_ble_eq_true rfl)) dX5_mayBeWide_8 ⟨Nat.zero_le _, Nat.zero_le _⟩) ?_
  refine rr_top (y := bi (decide (2 ≤ x ∧ x ≤ 19 ∧ rm < 6) && copB (rdW Rd) x 0)) (congrArg bi (mw_in hx2 hrm)) ?_
  refine lv_istore_n (lv' := [(2, .int (bi (decide (2 ≤ x ∧ x ≤ 19 ∧ rm < 6) && copB (rdW Rd) x 0))), (0, .ref m0), (1, .int (nI x))]) hx hb dX5_mayBeWide_11 rfl hl (by decide) rfl (fun ls hl => ?_)
  refine lv_iconst (v := (nI 0)) hx hb dX5_mayBeWide_12 (by decide) ?_
  refine lv_istore_n (lv' := [(3, .int (nI 0)), (2, .int (bi (decide (2 ≤ x ∧ x ≤ 19 ∧ rm < 6) && copB (rdW Rd) x 0))), (0, .ref m0), (1, .int (nI x))]) hx hb dX5_mayBeWide_13 rfl hl (by decide) rfl (fun ls hl => ?_)
  refine rl1 (A1 := Nat) (fun ls => W p l e _ s m _ below meth c s.heap [] 0 0 _ (F0 m 14 ls [])) (fun k ls => k ≤ rm ∧ lv_has ls 4 [(3, .int (nI k)), (2, .int (bi (decide (2 ≤ x ∧ x ≤ 19 ∧ rm < 6) && copB (rdW Rd) x k))), (0, .ref m0), (1, .int (nI x))]) (fun k => rm - k) ?_ 0 ls ⟨by omega, lv_sub hl [0, 1, 2, 3] rfl⟩
  rintro k ls ⟨hi, hl⟩ ih14
  refine lv_iload_n hx hb dX5_mayBeWide_14 rfl (lv_at hl 0 rfl) ?_
  refine lv_aload_n hx hb dX5_mayBeWide_15 rfl (lv_at hl 2 rfl) ?_
  refine va_get (D := (dC, dI)) (ci := 5) (v := .int (nI rm)) (C := RX5) (T := TX5) (N := 15) hx hb hts hiX5 hown hK hP 0 rfl rfl 11 (by decide) (hts (.fieldLink RX5 91 "RestRegistersModel" "readMany" "I") (by decide +kernel)) (fun _ h9 => h9) rfl dX5_mayBeWide_16 ?_
  refine rn_icmp_ge (tgt := 56) hx hb dX5_mayBeWide_19 (by decide) (by omega) (by omega) (fun c19 => ?_) (fun c19 => ?_)
  · skip
    refine lv_iload_n hx hb dX5_mayBeWide_56 rfl (lv_at hl 1 rfl) ?_
    exact rr_zret hx hb hr hlocks dX5_mayBeWide_57 (by first | exact mw_e (Nat.le_antisymm hi (by omega)) | exact mw_f c23 hi)
  refine lv_iload_n hx hb dX5_mayBeWide_22 rfl (lv_at hl 1 rfl) ?_
  refine rb_if_eq (tgt := 56) hx hb dX5_mayBeWide_23 (by decide) (fun c23 => ?_) (fun c23 => ?_)
  · skip
    refine lv_iload_n hx hb dX5_mayBeWide_56 rfl (lv_at hl 1 rfl) ?_
    exact rr_zret hx hb hr hlocks dX5_mayBeWide_57 (by first | exact mw_e (Nat.le_antisymm hi (by omega)) | exact mw_f c23 hi)
  refine lv_aload_n hx hb dX5_mayBeWide_26 rfl (lv_at hl 2 rfl) ?_
  refine va_get (D := (dC, dI)) (ci := 5) (v := .ref md) (C := RX5) (T := TX5) (N := 15) hx hb hts hiX5 hown hK hP 0 rfl rfl 13 (by decide) (hts (.fieldLink RX5 29 "RestRegistersModel" "read" "[I") (by decide +kernel)) (fun _ h9 => h9) rfl dX5_mayBeWide_27 ?_
  refine lv_iconst (v := (nI 2)) hx hb dX5_mayBeWide_30 (by decide) ?_
  refine lv_iload_n hx hb dX5_mayBeWide_31 rfl (lv_at hl 0 rfl) ?_
  refine rn_imul hx hb dX5_mayBeWide_32 ?_
  refine lv_iconst (v := (nI 1)) hx hb dX5_mayBeWide_33 (by decide) ?_
  refine rn_iadd hx hb dX5_mayBeWide_34 ?_
  refine rn_iald hx hb hK hP 1 0 rfl rfl (i := 2 * k + 1) (by omega) (by decide) (v := (nI (Rd (2 * k + 1)))) rfl dX5_mayBeWide_35 ?_
  have hwk := ok.2.2.1 k (by omega)
  refine rr_top (y := nI (rdW Rd k)) rfl ?_
  refine lv_iload_n hx hb dX5_mayBeWide_36 rfl (lv_at hl 3 rfl) ?_
  refine rr_callR (va_runS (As := [.int (nI (rdW Rd k)), .int (nI x)]) (rest := []) ⟨hx, hb, hml, hown, hts⟩ (c_X5_divisor l (rdW Rd k) x (by first | assumption | omega) (by first | assumption | omega)) (va_cwS 2 hts gX5_mayBeWide_X5_divisor rfl rfl rfl (by decide +kernel) ⟨Nat.le_of_ble_eq_true rfl, Nat.le_of_ble_eq_true rfl⟩) rr_preT rfl rfl hl.1 rfl (lv_room (Nat.le_of_ble_eq_true rfl)) dX5_mayBeWide_37 ⟨Nat.zero_le _, Nat.zero_le _⟩) ?_
  have hgl := Nat.gcd_le_left x (m := rdW Rd k) (by omega)
  refine lv_iconst (v := (nI 1)) hx hb dX5_mayBeWide_40 (by decide) ?_
  refine rn_icmp_ne (tgt := 48) hx hb dX5_mayBeWide_41 (by decide) (by omega) (by omega) (fun c41 => ?_) (fun c41 => ?_)
  · skip
    refine lv_iconst (v := (nI 0)) hx hb dX5_mayBeWide_48 (by decide) ?_
    refine rr_top (y := bi (decide (2 ≤ x ∧ x ≤ 19 ∧ rm < 6) && copB (rdW Rd) x (k + 1))) (by first | exact mw_1 c23 c41 | exact mw_0 c41) ?_
    refine lv_istore_n (lv' := [(2, .int (bi (decide (2 ≤ x ∧ x ≤ 19 ∧ rm < 6) && copB (rdW Rd) x (k + 1)))), (3, .int (nI k)), (0, .ref m0), (1, .int (nI x))]) hx hb dX5_mayBeWide_49 rfl hl (by decide) rfl (fun ls hl => ?_)
    refine lv_iinc (v := (nI (k + 1))) (lv' := [(3, .int (nI (k + 1))), (2, .int (bi (decide (2 ≤ x ∧ x ≤ 19 ∧ rm < 6) && copB (rdW Rd) x (k + 1)))), (0, .ref m0), (1, .int (nI x))]) hx hb dX5_mayBeWide_50 hl (k := 1) rfl (rn_inc k 1) (by decide) rfl (fun ls hl => ?_)
    refine lv_goto (tgt := 14) hx hb dX5_mayBeWide_53 (by decide) ?_
    exact ih14 (k + 1) ls ⟨by omega, lv_sub hl [0, 1, 2, 3] rfl⟩ (by omega)
  refine lv_iconst (v := (nI 1)) hx hb dX5_mayBeWide_44 (by decide) ?_
  refine lv_goto (tgt := 49) hx hb dX5_mayBeWide_45 (by decide) ?_
  refine rr_top (y := bi (decide (2 ≤ x ∧ x ≤ 19 ∧ rm < 6) && copB (rdW Rd) x (k + 1))) (by first | exact mw_1 c23 c41 | exact mw_0 c41) ?_
  refine lv_istore_n (lv' := [(2, .int (bi (decide (2 ≤ x ∧ x ≤ 19 ∧ rm < 6) && copB (rdW Rd) x (k + 1)))), (3, .int (nI k)), (0, .ref m0), (1, .int (nI x))]) hx hb dX5_mayBeWide_49 rfl hl (by decide) rfl (fun ls hl => ?_)
  refine lv_iinc (v := (nI (k + 1))) (lv' := [(3, .int (nI (k + 1))), (2, .int (bi (decide (2 ≤ x ∧ x ≤ 19 ∧ rm < 6) && copB (rdW Rd) x (k + 1)))), (0, .ref m0), (1, .int (nI x))]) hx hb dX5_mayBeWide_50 hl (k := 1) rfl (rn_inc k 1) (by decide) rfl (fun ls hl => ?_)
  refine lv_goto (tgt := 14) hx hb dX5_mayBeWide_53 (by decide) ?_
  exact ih14 (k + 1) ls ⟨by omega, lv_sub hl [0, 1, 2, 3] rfl⟩ (by omega)
set_option maxHeartbeats 4000000 in
set_option maxRecDepth 100000 in
theorem c_X5_takesWheel (l : Launch) (dC : Nat → ClassId) (dI : Nat → Nat → Nat) (cI cJ cS : ClassId) (sz : Nat) (m0 mw mt ml mz mi mr md mh : Nat) (im : Bool) (tl : Nat) (Tp : Nat → Nat) (u : MSt) (ht : tpOk Tp tl) (hu : qOk tl u) (hu5 : u.2.2.2.1 < 6) : Met l yX5_takesWheel wsX5_takesWheel ({ frames := 2, cells := 0, slots := 0, locals := 48 }) (va_Pc [.ref m0] (rW (dC, dI) vwCl [(m0, .inr (5, [.ref mw, .int (bi im), .ref mt, .int (nI tl), .ref ml, .ref mz, .ref mi, .ref mr, .int (nI u.1), .int (nI u.2.1), .int (nI u.2.2.1), .int (nI u.2.2.2.1), .int (nI u.2.2.2.2.1), .ref md, .ref mh])), (mt, .inl (cI, 40, .inl (nA Tp))), (md, .inl (cI, 12, .inl (nA u.2.2.2.2.2)))] (tyz cI cJ cS) sz)) (qI (bi ((twS Tp tl u).2)) (dC, dI) vwCl [(m0, .inr (5, [.ref mw, .int (bi im), .ref mt, .int (nI tl), .ref ml, .ref mz, .ref mi, .ref mr, .int (nI ((twS Tp tl u).1.1)), .int (nI ((twS Tp tl u).1.2.1)), .int (nI ((twS Tp tl u).1.2.2.1)), .int (nI ((twS Tp tl u).1.2.2.2.1)), .int (nI ((twS Tp tl u).1.2.2.2.2.1)), .ref md, .ref mh])), (mt, .inl (cI, 40, .inl (nA Tp))), (md, .inl (cI, 12, .inl (nA ((twS Tp tl u).1.2.2.2.2.2))))] (va_A [(m0, .inr (5, [.ref mw, .int (bi im), .ref mt, .int (nI tl), .ref ml, .ref mz, .ref mi, .ref mr, .int (nI u.1), .int (nI u.2.1), .int (nI u.2.2.1), .int (nI u.2.2.2.1), .int (nI u.2.2.2.2.1), .ref md, .ref mh])), (mt, .inl (cI, 40, .inl (nA Tp))), (md, .inl (cI, 12, .inl (nA u.2.2.2.2.2)))] sz)) 0 0 (va_A [(m0, .inr (5, [.ref mw, .int (bi im), .ref mt, .int (nI tl), .ref ml, .ref mz, .ref mi, .ref mr, .int (nI u.1), .int (nI u.2.1), .int (nI u.2.2.1), .int (nI u.2.2.2.1), .int (nI u.2.2.2.2.1), .ref md, .ref mh])), (mt, .inl (cI, 40, .inl (nA Tp))), (md, .inl (cI, 12, .inl (nA u.2.2.2.2.2)))] sz) := by
  refine Met.ofW (cc := cX5_takesWheel) (maxL := 3) (ret := (some .boolean)) (by decide) rfl ?_
  intro p e s m args below meth c s₁ B hml hv
  obtain ⟨rfl, hsz, hP, hKK, hD0⟩ := hv
  have hK := hKK.1
  have hx := B.exec
  have hb := B.bytes
  have hr := B.returns
  have hts := atoms_spec (ws := wsX5_takesWheel) B.pre
  have hown : s.vm.findClass RX5 = some m.cls := findClass_of_methodNamed B.named
  have hlocks := B.notSynchronized
  subst hsz
  have hD := hD0.self (sz := s.heap.size)
  generalize hAe : va_A [(m0, .inr (5, [.ref mw, .int (bi im), .ref mt, .int (nI tl), .ref ml, .ref mz, .ref mi, .ref mr, .int (nI u.1), .int (nI u.2.1), .int (nI u.2.2.1), .int (nI u.2.2.2.1), .int (nI u.2.2.2.2.1), .ref md, .ref mh])), (mt, .inl (cI, 40, .inl (nA Tp))), (md, .inl (cI, 12, .inl (nA u.2.2.2.2.2)))] s.heap.size = A at hD ⊢
  have hA : ∀ q : Nat, s.heap.size ≤ q → A q := fun q h => by rw [← hAe]; exact Or.inr h
  have hS : va_S A s.heap s.heap [] := va_S.rf
  have hP : va_P (dC, dI) vwCl [(m0, .inr (5, [.ref mw, .int (bi im), .ref mt, .int (nI tl), .ref ml, .ref mz, .ref mi, .ref mr, .int (nI u.1), .int (nI u.2.1), .int (nI u.2.2.1), .int (nI u.2.2.2.1), .int (nI u.2.2.2.2.1), .ref md, .ref mh])), (mt, .inl (cI, 40, .inl (nA Tp))), (md, .inl (cI, 12, .inl (nA u.2.2.2.2.2)))] s.heap := hP
  have hiX5 : ∀ w ∈ wsX50, w ∈ wsX5_takesWheel := by decide +kernel
  have hl := lv_entry ([.ref m0]) (n := 3) (Nat.le_of_ble_eq_true rfl)
  rw [lg_entry_eq]
  generalize (lg_sl ([.ref m0]) ++ List.replicate (3 - (lg_sl ([.ref m0])).length) Slot.unset).toArray = ls at hl ⊢
  have hl : lv_has ls 3 [(0, .ref m0)] := hl
  have h40 := ht.1
  have b1 := skq_b (T := Tp) hu.1
  refine lv_aload_n hx hb dX5_takesWheel_0 rfl (lv_at hl 0 rfl) ?_
  refine rw_callv (va_runV (As := []) (rest := []) ⟨hx, hb, hml, hown, hts⟩ (c_X5_blanks l dC dI cI cJ cS _ m0 mw mt ml mz mi mr md mh im tl u.1 u.2.1 u.2.2.1 u.2.2.2.1 u.2.2.2.2.1 Tp (by first | assumption | omega) (hu.1)) (cwV 0 hts gX5_takesWheel_X5_blanks rfl rfl rfl (by decide +kernel) ⟨Nat.le_of_ble_eq_true rfl, Nat.le_of_ble_eq_true rfl⟩) (rw_preV hKK (hP.sub [0, 1] rfl) (hD.sub [0, 1] (by decide) rfl) rfl rfl) rfl rfl hl.1 rfl (lv_room (Nat.le_of_ble_eq_true rfl)) dX5_takesWheel_1 ⟨Nat.zero_le _, Nat.zero_le _⟩) (wr := [(md, .inl (cI, 12, .inl (nA u.2.2.2.2.2)))]) hP hD hS hA [0, 1] [2] rfl rfl (by decide) (by decide) (fun H locs hP hD hS => ?_)
  have hP : va_P (dC, dI) vwCl [(m0, .inr (5, [.ref mw, .int (bi im), .ref mt, .int (nI tl), .ref ml, .ref mz, .ref mi, .ref mr, .int (nI (skq Tp tl u.1)), .int (nI (skq Tp tl u.1)), .int (nI u.2.2.1), .int (nI u.2.2.2.1), .int (nI u.2.2.2.2.1), .ref md, .ref mh])), (mt, .inl (cI, 40, .inl (nA Tp))), (md, .inl (cI, 12, .inl (nA u.2.2.2.2.2)))] H := hP.sub [1, 2, 0] rfl
  have hD : va_D A [(m0, .inr (5, [.ref mw, .int (bi im), .ref mt, .int (nI tl), .ref ml, .ref mz, .ref mi, .ref mr, .int (nI (skq Tp tl u.1)), .int (nI (skq Tp tl u.1)), .int (nI u.2.2.1), .int (nI u.2.2.2.1), .int (nI u.2.2.2.2.1), .ref md, .ref mh])), (mt, .inl (cI, 40, .inl (nA Tp))), (md, .inl (cI, 12, .inl (nA u.2.2.2.2.2)))] := hD.sub [1, 2, 0] (by decide) rfl
  refine lv_aload_n hx hb dX5_takesWheel_4 rfl (lv_at hl 0 rfl) ?_
  refine rr_callR (va_runV (As := []) (rest := []) ⟨hx, hb, hml, hown, hts⟩ (c_X5_here l dC dI cI cJ cS m0 mw mt ml mz mi mr md mh im tl (skq Tp tl u.1) (skq Tp tl u.1) u.2.2.1 u.2.2.2.1 u.2.2.2.2.1 Tp (by first | assumption | omega) (b1.2)) (cwV 0 hts gX5_takesWheel_X5_here rfl rfl rfl (by decide +kernel) ⟨Nat.le_of_ble_eq_true rfl, Nat.le_of_ble_eq_true rfl⟩) (rr_preV hKK (hP.sub [0, 1] rfl) rfl rfl) rfl rfl hl.1 rfl (lv_room (Nat.le_of_ble_eq_true rfl)) dX5_takesWheel_5 ⟨Nat.zero_le _, Nat.zero_le _⟩) ?_
  refine rr_callR (va_runS (As := [.int (lkI Tp tl (skq Tp tl u.1))]) (rest := []) ⟨hx, hb, hml, hown, hts⟩ (c_X5_kindOf l (lkI Tp tl (skq Tp tl u.1)) ) (va_cwS 1 hts gX5_takesWheel_X5_kindOf rfl rfl rfl (by decide +kernel) ⟨Nat.le_of_ble_eq_true rfl, Nat.le_of_ble_eq_true rfl⟩) rr_preT rfl rfl hl.1 rfl (lv_room (Nat.le_of_ble_eq_true rfl)) dX5_takesWheel_8 ⟨Nat.zero_le _, Nat.zero_le _⟩) ?_
  refine lv_istore_n (lv' := [(1, .int (kindC (lkI Tp tl (skq Tp tl u.1)))), (0, .ref m0)]) hx hb dX5_takesWheel_11 rfl hl (by decide) rfl (fun ls hl => ?_)
  refine lv_iload_n hx hb dX5_takesWheel_12 rfl (lv_at hl 0 rfl) ?_
  refine lv_if_ge (tgt := 18) hx hb dX5_takesWheel_13 (by decide) (fun c13 => ?_) (fun c13 => ?_)
  · skip
    have c13 := Int32.not_lt.mpr c13
    have hkc := kcN_ok c13
    have hlt := kc_lt c13
    have b2 := skq_b (T := Tp) (show skq Tp tl u.1 + 1 ≤ tl from hlt)
    have b3 := nmV_b ht b2.2
    refine lv_aload_n hx hb dX5_takesWheel_18 rfl (lv_at hl 1 rfl) ?_
    refine lv_dup hx hb dX5_takesWheel_19 rfl ?_
    refine va_get (D := (dC, dI)) (ci := 5) (v := .int (nI (skq Tp tl u.1))) (C := RX5) (T := TX5) (N := 15) hx hb hts hiX5 hown hK hP 0 rfl rfl 8 (by decide) (hts (.fieldLink RX5 81 "RestRegistersModel" "at" "I") (by decide +kernel)) (fun _ h9 => h9) rfl dX5_takesWheel_20 ?_
    refine lv_iconst (v := (nI 1)) hx hb dX5_takesWheel_23 (by decide) ?_
    refine rn_iadd hx hb dX5_takesWheel_24 ?_
    refine va_put (D := (dC, dI)) (ci := 5) (v := .int (nI (skq Tp tl u.1 + 1))) (ty := .int) (C := RX5) (T := TX5) (N := 15) hx hb hts hiX5 tyX5 tyX5_ok nmX5 hown hK hP hD hS 0 rfl rfl 8 (by decide) (hts (.fieldLink RX5 81 "RestRegistersModel" "at" "I") (by decide +kernel)) (fun _ h9 => h9) rfl (by decide +kernel) rfl rfl (Nat.le_of_ble_eq_true rfl) dX5_takesWheel_25 (fun H locs hP hD hS => ?_)
    have hP : va_P (dC, dI) vwCl [(m0, .inr (5, [.ref mw, .int (bi im), .ref mt, .int (nI tl), .ref ml, .ref mz, .ref mi, .ref mr, .int (nI (skq Tp tl u.1 + 1)), .int (nI (skq Tp tl u.1)), .int (nI u.2.2.1), .int (nI u.2.2.2.1), .int (nI u.2.2.2.2.1), .ref md, .ref mh])), (mt, .inl (cI, 40, .inl (nA Tp))), (md, .inl (cI, 12, .inl (nA u.2.2.2.2.2)))] H := hP
    have hD : va_D A [(m0, .inr (5, [.ref mw, .int (bi im), .ref mt, .int (nI tl), .ref ml, .ref mz, .ref mi, .ref mr, .int (nI (skq Tp tl u.1 + 1)), .int (nI (skq Tp tl u.1)), .int (nI u.2.2.1), .int (nI u.2.2.2.1), .int (nI u.2.2.2.2.1), .ref md, .ref mh])), (mt, .inl (cI, 40, .inl (nA Tp))), (md, .inl (cI, 12, .inl (nA u.2.2.2.2.2)))] := hD
    refine lv_aload_n hx hb dX5_takesWheel_28 rfl (lv_at hl 1 rfl) ?_
    refine rw_callv (va_runV (As := []) (rest := []) ⟨hx, hb, hml, hown, hts⟩ (c_X5_blanks l dC dI cI cJ cS _ m0 mw mt ml mz mi mr md mh im tl (skq Tp tl u.1 + 1) (skq Tp tl u.1) u.2.2.1 u.2.2.2.1 u.2.2.2.2.1 Tp (by first | assumption | omega) (hlt)) (cwV 0 hts gX5_takesWheel_X5_blanks rfl rfl rfl (by decide +kernel) ⟨Nat.le_of_ble_eq_true rfl, Nat.le_of_ble_eq_true rfl⟩) (rw_preV hKK (hP.sub [0, 1] rfl) (hD.sub [0, 1] (by decide) rfl) rfl rfl) rfl rfl hl.1 rfl (lv_room (Nat.le_of_ble_eq_true rfl)) dX5_takesWheel_29 ⟨Nat.zero_le _, Nat.zero_le _⟩) (wr := [(md, .inl (cI, 12, .inl (nA u.2.2.2.2.2)))]) hP hD hS hA [0, 1] [2] rfl rfl (by decide) (by decide) (fun H locs hP hD hS => ?_)
    have hP : va_P (dC, dI) vwCl [(m0, .inr (5, [.ref mw, .int (bi im), .ref mt, .int (nI tl), .ref ml, .ref mz, .ref mi, .ref mr, .int (nI (skq Tp tl (skq Tp tl u.1 + 1))), .int (nI (skq Tp tl (skq Tp tl u.1 + 1))), .int (nI u.2.2.1), .int (nI u.2.2.2.1), .int (nI u.2.2.2.2.1), .ref md, .ref mh])), (mt, .inl (cI, 40, .inl (nA Tp))), (md, .inl (cI, 12, .inl (nA u.2.2.2.2.2)))] H := hP.sub [1, 2, 0] rfl
    have hD : va_D A [(m0, .inr (5, [.ref mw, .int (bi im), .ref mt, .int (nI tl), .ref ml, .ref mz, .ref mi, .ref mr, .int (nI (skq Tp tl (skq Tp tl u.1 + 1))), .int (nI (skq Tp tl (skq Tp tl u.1 + 1))), .int (nI u.2.2.1), .int (nI u.2.2.2.1), .int (nI u.2.2.2.2.1), .ref md, .ref mh])), (mt, .inl (cI, 40, .inl (nA Tp))), (md, .inl (cI, 12, .inl (nA u.2.2.2.2.2)))] := hD.sub [1, 2, 0] (by decide) rfl
    refine lv_aload_n hx hb dX5_takesWheel_32 rfl (lv_at hl 1 rfl) ?_
    refine lv_iconst (v := (nI 0)) hx hb dX5_takesWheel_33 (by decide) ?_
    refine va_put (D := (dC, dI)) (ci := 5) (v := .int (nI 0)) (ty := .int) (C := RX5) (T := TX5) (N := 15) hx hb hts hiX5 tyX5 tyX5_ok nmX5 hown hK hP hD hS 0 rfl rfl 10 (by decide) (hts (.fieldLink RX5 107 "RestRegistersModel" "number" "I") (by decide +kernel)) (fun _ h9 => h9) rfl (by decide +kernel) rfl rfl (Nat.le_of_ble_eq_true rfl) dX5_takesWheel_34 (fun H locs hP hD hS => ?_)
    have hP : va_P (dC, dI) vwCl [(m0, .inr (5, [.ref mw, .int (bi im), .ref mt, .int (nI tl), .ref ml, .ref mz, .ref mi, .ref mr, .int (nI (skq Tp tl (skq Tp tl u.1 + 1))), .int (nI (skq Tp tl (skq Tp tl u.1 + 1))), .int (nI 0), .int (nI u.2.2.2.1), .int (nI u.2.2.2.2.1), .ref md, .ref mh])), (mt, .inl (cI, 40, .inl (nA Tp))), (md, .inl (cI, 12, .inl (nA u.2.2.2.2.2)))] H := hP
    have hD : va_D A [(m0, .inr (5, [.ref mw, .int (bi im), .ref mt, .int (nI tl), .ref ml, .ref mz, .ref mi, .ref mr, .int (nI (skq Tp tl (skq Tp tl u.1 + 1))), .int (nI (skq Tp tl (skq Tp tl u.1 + 1))), .int (nI 0), .int (nI u.2.2.2.1), .int (nI u.2.2.2.2.1), .ref md, .ref mh])), (mt, .inl (cI, 40, .inl (nA Tp))), (md, .inl (cI, 12, .inl (nA u.2.2.2.2.2)))] := hD
    refine lv_iconst (v := (nI 0)) hx hb dX5_takesWheel_37 (by decide) ?_
    refine lv_istore_n (lv' := [(2, .int (nI 0)), (1, .int (kindC (lkI Tp tl (skq Tp tl u.1)))), (0, .ref m0)]) hx hb dX5_takesWheel_38 rfl hl (by decide) rfl (fun ls hl => ?_)
    refine lv_iload_n hx hb dX5_takesWheel_39 rfl (lv_at hl 0 rfl) ?_
    refine lv_iconst (v := (nI 2)) hx hb dX5_takesWheel_40 (by decide) ?_
    refine rn_icmp_ge (tgt := 96) hx hb dX5_takesWheel_41 (by decide) (by omega) (by omega) (fun c41 => ?_) (fun c41 => ?_)
    · exact absurd c41 (by decide)
    refine lv_aload_n hx hb dX5_takesWheel_44 rfl (lv_at hl 2 rfl) ?_
    refine rr_callR (va_runV (As := []) (rest := []) ⟨hx, hb, hml, hown, hts⟩ (c_X5_here l dC dI cI cJ cS m0 mw mt ml mz mi mr md mh im tl (skq Tp tl (skq Tp tl u.1 + 1)) (skq Tp tl (skq Tp tl u.1 + 1)) 0 u.2.2.2.1 u.2.2.2.2.1 Tp (by first | assumption | omega) (b2.2)) (cwV 0 hts gX5_takesWheel_X5_here rfl rfl rfl (by decide +kernel) ⟨Nat.le_of_ble_eq_true rfl, Nat.le_of_ble_eq_true rfl⟩) (rr_preV hKK (hP.sub [0, 1] rfl) rfl rfl) rfl rfl hl.1 rfl (lv_room (Nat.le_of_ble_eq_true rfl)) dX5_takesWheel_45 ⟨Nat.zero_le _, Nat.zero_le _⟩) ?_
    refine lv_i2l hx hb dX5_takesWheel_48 rfl ?_
    refine lv_ldc2 (v := 48) hx hb hown (hts (.constantLong RX5 110 (48)) (by decide +kernel)) dX5_takesWheel_49 ?_
    refine lv_ldc2 (v := 57) hx hb hown (hts (.constantLong RX5 112 (57)) (by decide +kernel)) dX5_takesWheel_52 ?_
    refine rr_callR (va_runS (As := [.long ((lkI Tp tl (skq Tp tl (skq Tp tl u.1 + 1))).toInt64), .long 48, .long 57]) (rest := []) ⟨hx, hb, hml, hown, hts⟩ (c_X5_in l ((lkI Tp tl (skq Tp tl (skq Tp tl u.1 + 1))).toInt64) 48 57 ) (va_cwS 3 hts gX5_takesWheel_X5_in rfl rfl rfl (by decide +kernel) ⟨Nat.le_of_ble_eq_true rfl, Nat.le_of_ble_eq_true rfl⟩) rr_preT rfl rfl hl.1 rfl (lv_room (Nat.le_of_ble_eq_true rfl)) dX5_takesWheel_55 ⟨Nat.zero_le _, Nat.zero_le _⟩) ?_
    refine rb_if_eq (tgt := 96) hx hb dX5_takesWheel_58 (by decide) (fun c58 => ?_) (fun c58 => ?_)
    · skip
      have hn_ : dgB Tp tl (skq Tp tl (skq Tp tl u.1 + 1)) = false := (inL_dig _).symm.trans c58
      have epn := nmV_0 hn_
      have en : 0 = nmV Tp tl (skq Tp tl (skq Tp tl u.1 + 1)) := by rw [epn.1]
      have ew : ([(m0, .inr (5, [.ref mw, .int (bi im), .ref mt, .int (nI tl), .ref ml, .ref mz, .ref mi, .ref mr, .int (nI (nmP Tp tl (skq Tp tl (skq Tp tl u.1 + 1)))), .int (nI (skq Tp tl (skq Tp tl u.1 + 1))), .int (nI (nmV Tp tl (skq Tp tl (skq Tp tl u.1 + 1)))), .int (nI u.2.2.2.1), .int (nI u.2.2.2.2.1), .ref md, .ref mh])), (mt, .inl (cI, 40, .inl (nA Tp))), (md, .inl (cI, 12, .inl (nA u.2.2.2.2.2)))] : va_W) = [(m0, .inr (5, [.ref mw, .int (bi im), .ref mt, .int (nI tl), .ref ml, .ref mz, .ref mi, .ref mr, .int (nI (skq Tp tl (skq Tp tl u.1 + 1))), .int (nI (skq Tp tl (skq Tp tl u.1 + 1))), .int (nI 0), .int (nI u.2.2.2.1), .int (nI u.2.2.2.2.1), .ref md, .ref mh])), (mt, .inl (cI, 40, .inl (nA Tp))), (md, .inl (cI, 12, .inl (nA u.2.2.2.2.2)))] := by rw [epn.1, epn.2]
      rw [← ew] at hP hD
      have hP : va_P (dC, dI) vwCl [(m0, .inr (5, [.ref mw, .int (bi im), .ref mt, .int (nI tl), .ref ml, .ref mz, .ref mi, .ref mr, .int (nI (nmP Tp tl (skq Tp tl (skq Tp tl u.1 + 1)))), .int (nI (skq Tp tl (skq Tp tl u.1 + 1))), .int (nI (nmV Tp tl (skq Tp tl (skq Tp tl u.1 + 1)))), .int (nI u.2.2.2.1), .int (nI u.2.2.2.2.1), .ref md, .ref mh])), (mt, .inl (cI, 40, .inl (nA Tp))), (md, .inl (cI, 12, .inl (nA u.2.2.2.2.2)))] H := hP
      have hD : va_D A [(m0, .inr (5, [.ref mw, .int (bi im), .ref mt, .int (nI tl), .ref ml, .ref mz, .ref mi, .ref mr, .int (nI (nmP Tp tl (skq Tp tl (skq Tp tl u.1 + 1)))), .int (nI (skq Tp tl (skq Tp tl u.1 + 1))), .int (nI (nmV Tp tl (skq Tp tl (skq Tp tl u.1 + 1)))), .int (nI u.2.2.2.1), .int (nI u.2.2.2.2.1), .ref md, .ref mh])), (mt, .inl (cI, 40, .inl (nA Tp))), (md, .inl (cI, 12, .inl (nA u.2.2.2.2.2)))] := hD
      refine lv_iload_n hx hb dX5_takesWheel_96 rfl (lv_at hl 0 rfl) ?_
      refine rn_if_eq (tgt := 111) hx hb dX5_takesWheel_97 (by decide) (by omega) (fun c97 => ?_) (fun c97 => ?_)
      rotate_left
      · exact absurd c97 (by decide)
      refine lv_iconst (v := (nI 0)) hx hb dX5_takesWheel_111 (by decide) ?_
      rw [twS_2 c13 (Or.inl hn_)]
      refine rr_top (y := bi false) rfl ?_
      exact rr_zretW hx hb hr hlocks dX5_takesWheel_112 hP hD hS (rfl)
    have hd_0 : dgB Tp tl (skq Tp tl (skq Tp tl u.1 + 1)) = true := (inL_dig _).symm.trans c58
    have hd2_0 := dgB_t ht hd_0
    refine lv_aload_n hx hb dX5_takesWheel_61 rfl (lv_at hl 2 rfl) ?_
    refine lv_bipush (v := (nI 10)) hx hb dX5_takesWheel_62 (by decide) ?_
    refine lv_aload_n hx hb dX5_takesWheel_64 rfl (lv_at hl 2 rfl) ?_
    refine va_get (D := (dC, dI)) (ci := 5) (v := .int (nI 0)) (C := RX5) (T := TX5) (N := 15) hx hb hts hiX5 hown hK hP 0 rfl rfl 10 (by decide) (hts (.fieldLink RX5 107 "RestRegistersModel" "number" "I") (by decide +kernel)) (fun _ h9 => h9) rfl dX5_takesWheel_65 ?_
    refine rn_imul hx hb dX5_takesWheel_68 ?_
    refine lv_aload_n hx hb dX5_takesWheel_69 rfl (lv_at hl 2 rfl) ?_
    refine rr_callR (va_runV (As := []) (rest := [.int (nI (10 * 0)), .ref m0]) ⟨hx, hb, hml, hown, hts⟩ (c_X5_here l dC dI cI cJ cS m0 mw mt ml mz mi mr md mh im tl (skq Tp tl (skq Tp tl u.1 + 1)) (skq Tp tl (skq Tp tl u.1 + 1)) 0 u.2.2.2.1 u.2.2.2.2.1 Tp (by first | assumption | omega) (b2.2)) (cwV 0 hts gX5_takesWheel_X5_here rfl rfl rfl (by decide +kernel) ⟨Nat.le_of_ble_eq_true rfl, Nat.le_of_ble_eq_true rfl⟩) (rr_preV hKK (hP.sub [0, 1] rfl) rfl rfl) rfl rfl hl.1 rfl (lv_room (Nat.le_of_ble_eq_true rfl)) dX5_takesWheel_70 ⟨Nat.zero_le _, Nat.zero_le _⟩) ?_
    refine rr_top (y := nI (Tp (skq Tp tl (skq Tp tl u.1 + 1)))) (lkI_t hd2_0.1) ?_
    refine rn_iadd hx hb dX5_takesWheel_73 ?_
    refine lv_bipush (v := (nI 48)) hx hb dX5_takesWheel_74 (by decide) ?_
    refine rn_isub hx hb dX5_takesWheel_76 (by omega) ?_
    refine va_put (D := (dC, dI)) (ci := 5) (v := .int (nI (10 * 0 + (Tp (skq Tp tl (skq Tp tl u.1 + 1))) - 48))) (ty := .int) (C := RX5) (T := TX5) (N := 15) hx hb hts hiX5 tyX5 tyX5_ok nmX5 hown hK hP hD hS 0 rfl rfl 10 (by decide) (hts (.fieldLink RX5 107 "RestRegistersModel" "number" "I") (by decide +kernel)) (fun _ h9 => h9) rfl (by decide +kernel) rfl rfl (Nat.le_of_ble_eq_true rfl) dX5_takesWheel_77 (fun H locs hP hD hS => ?_)
    have hP : va_P (dC, dI) vwCl [(m0, .inr (5, [.ref mw, .int (bi im), .ref mt, .int (nI tl), .ref ml, .ref mz, .ref mi, .ref mr, .int (nI (skq Tp tl (skq Tp tl u.1 + 1))), .int (nI (skq Tp tl (skq Tp tl u.1 + 1))), .int (nI (10 * 0 + (Tp (skq Tp tl (skq Tp tl u.1 + 1))) - 48)), .int (nI u.2.2.2.1), .int (nI u.2.2.2.2.1), .ref md, .ref mh])), (mt, .inl (cI, 40, .inl (nA Tp))), (md, .inl (cI, 12, .inl (nA u.2.2.2.2.2)))] H := hP
    have hD : va_D A [(m0, .inr (5, [.ref mw, .int (bi im), .ref mt, .int (nI tl), .ref ml, .ref mz, .ref mi, .ref mr, .int (nI (skq Tp tl (skq Tp tl u.1 + 1))), .int (nI (skq Tp tl (skq Tp tl u.1 + 1))), .int (nI (10 * 0 + (Tp (skq Tp tl (skq Tp tl u.1 + 1))) - 48)), .int (nI u.2.2.2.1), .int (nI u.2.2.2.2.1), .ref md, .ref mh])), (mt, .inl (cI, 40, .inl (nA Tp))), (md, .inl (cI, 12, .inl (nA u.2.2.2.2.2)))] := hD
    refine lv_iinc (v := (nI (0 + 1))) (lv' := [(2, .int (nI (0 + 1))), (1, .int (kindC (lkI Tp tl (skq Tp tl u.1)))), (0, .ref m0)]) hx hb dX5_takesWheel_80 hl (k := 0) rfl (rn_inc 0 1) (by decide) rfl (fun ls hl => ?_)
    refine lv_aload_n hx hb dX5_takesWheel_83 rfl (lv_at hl 2 rfl) ?_
    refine lv_dup hx hb dX5_takesWheel_84 rfl ?_
    refine va_get (D := (dC, dI)) (ci := 5) (v := .int (nI (skq Tp tl (skq Tp tl u.1 + 1)))) (C := RX5) (T := TX5) (N := 15) hx hb hts hiX5 hown hK hP 0 rfl rfl 8 (by decide) (hts (.fieldLink RX5 81 "RestRegistersModel" "at" "I") (by decide +kernel)) (fun _ h9 => h9) rfl dX5_takesWheel_85 ?_
    refine lv_iconst (v := (nI 1)) hx hb dX5_takesWheel_88 (by decide) ?_
    refine rn_iadd hx hb dX5_takesWheel_89 ?_
    refine va_put (D := (dC, dI)) (ci := 5) (v := .int (nI (skq Tp tl (skq Tp tl u.1 + 1) + 1))) (ty := .int) (C := RX5) (T := TX5) (N := 15) hx hb hts hiX5 tyX5 tyX5_ok nmX5 hown hK hP hD hS 0 rfl rfl 8 (by decide) (hts (.fieldLink RX5 81 "RestRegistersModel" "at" "I") (by decide +kernel)) (fun _ h9 => h9) rfl (by decide +kernel) rfl rfl (Nat.le_of_ble_eq_true rfl) dX5_takesWheel_90 (fun H locs hP hD hS => ?_)
    have hP : va_P (dC, dI) vwCl [(m0, .inr (5, [.ref mw, .int (bi im), .ref mt, .int (nI tl), .ref ml, .ref mz, .ref mi, .ref mr, .int (nI (skq Tp tl (skq Tp tl u.1 + 1) + 1)), .int (nI (skq Tp tl (skq Tp tl u.1 + 1))), .int (nI (10 * 0 + (Tp (skq Tp tl (skq Tp tl u.1 + 1))) - 48)), .int (nI u.2.2.2.1), .int (nI u.2.2.2.2.1), .ref md, .ref mh])), (mt, .inl (cI, 40, .inl (nA Tp))), (md, .inl (cI, 12, .inl (nA u.2.2.2.2.2)))] H := hP
    have hD : va_D A [(m0, .inr (5, [.ref mw, .int (bi im), .ref mt, .int (nI tl), .ref ml, .ref mz, .ref mi, .ref mr, .int (nI (skq Tp tl (skq Tp tl u.1 + 1) + 1)), .int (nI (skq Tp tl (skq Tp tl u.1 + 1))), .int (nI (10 * 0 + (Tp (skq Tp tl (skq Tp tl u.1 + 1))) - 48)), .int (nI u.2.2.2.1), .int (nI u.2.2.2.2.1), .ref md, .ref mh])), (mt, .inl (cI, 40, .inl (nA Tp))), (md, .inl (cI, 12, .inl (nA u.2.2.2.2.2)))] := hD
    refine lv_goto (tgt := 39) hx hb dX5_takesWheel_93 (by decide) ?_
    refine lv_iload_n hx hb dX5_takesWheel_39 rfl (lv_at hl 0 rfl) ?_
    refine lv_iconst (v := (nI 2)) hx hb dX5_takesWheel_40 (by decide) ?_
    refine rn_icmp_ge (tgt := 96) hx hb dX5_takesWheel_41 (by decide) (by omega) (by omega) (fun c41 => ?_) (fun c41 => ?_)
    · exact absurd c41 (by decide)
    refine lv_aload_n hx hb dX5_takesWheel_44 rfl (lv_at hl 2 rfl) ?_
    refine rr_callR (va_runV (As := []) (rest := []) ⟨hx, hb, hml, hown, hts⟩ (c_X5_here l dC dI cI cJ cS m0 mw mt ml mz mi mr md mh im tl (skq Tp tl (skq Tp tl u.1 + 1) + 1) (skq Tp tl (skq Tp tl u.1 + 1)) (10 * 0 + (Tp (skq Tp tl (skq Tp tl u.1 + 1))) - 48) u.2.2.2.1 u.2.2.2.2.1 Tp (by first | assumption | omega) (hd2_0.1)) (cwV 0 hts gX5_takesWheel_X5_here rfl rfl rfl (by decide +kernel) ⟨Nat.le_of_ble_eq_true rfl, Nat.le_of_ble_eq_true rfl⟩) (rr_preV hKK (hP.sub [0, 1] rfl) rfl rfl) rfl rfl hl.1 rfl (lv_room (Nat.le_of_ble_eq_true rfl)) dX5_takesWheel_45 ⟨Nat.zero_le _, Nat.zero_le _⟩) ?_
    refine lv_i2l hx hb dX5_takesWheel_48 rfl ?_
    refine lv_ldc2 (v := 48) hx hb hown (hts (.constantLong RX5 110 (48)) (by decide +kernel)) dX5_takesWheel_49 ?_
    refine lv_ldc2 (v := 57) hx hb hown (hts (.constantLong RX5 112 (57)) (by decide +kernel)) dX5_takesWheel_52 ?_
    refine rr_callR (va_runS (As := [.long ((lkI Tp tl (skq Tp tl (skq Tp tl u.1 + 1) + 1)).toInt64), .long 48, .long 57]) (rest := []) ⟨hx, hb, hml, hown, hts⟩ (c_X5_in l ((lkI Tp tl (skq Tp tl (skq Tp tl u.1 + 1) + 1)).toInt64) 48 57 ) (va_cwS 3 hts gX5_takesWheel_X5_in rfl rfl rfl (by decide +kernel) ⟨Nat.le_of_ble_eq_true rfl, Nat.le_of_ble_eq_true rfl⟩) rr_preT rfl rfl hl.1 rfl (lv_room (Nat.le_of_ble_eq_true rfl)) dX5_takesWheel_55 ⟨Nat.zero_le _, Nat.zero_le _⟩) ?_
    refine rb_if_eq (tgt := 96) hx hb dX5_takesWheel_58 (by decide) (fun c58 => ?_) (fun c58 => ?_)
    · skip
      have hn_ : dgB Tp tl (skq Tp tl (skq Tp tl u.1 + 1) + 1) = false := (inL_dig _).symm.trans c58
      have epn := nmV_1 hd_0 hn_
      have en : 10 * 0 + (Tp (skq Tp tl (skq Tp tl u.1 + 1))) - 48 = nmV Tp tl (skq Tp tl (skq Tp tl u.1 + 1)) := by rw [epn.1] ; omega
      rw [en, ← epn.2] at hP hD
      have hP : va_P (dC, dI) vwCl [(m0, .inr (5, [.ref mw, .int (bi im), .ref mt, .int (nI tl), .ref ml, .ref mz, .ref mi, .ref mr, .int (nI (nmP Tp tl (skq Tp tl (skq Tp tl u.1 + 1)))), .int (nI (skq Tp tl (skq Tp tl u.1 + 1))), .int (nI (nmV Tp tl (skq Tp tl (skq Tp tl u.1 + 1)))), .int (nI u.2.2.2.1), .int (nI u.2.2.2.2.1), .ref md, .ref mh])), (mt, .inl (cI, 40, .inl (nA Tp))), (md, .inl (cI, 12, .inl (nA u.2.2.2.2.2)))] H := hP
      have hD : va_D A [(m0, .inr (5, [.ref mw, .int (bi im), .ref mt, .int (nI tl), .ref ml, .ref mz, .ref mi, .ref mr, .int (nI (nmP Tp tl (skq Tp tl (skq Tp tl u.1 + 1)))), .int (nI (skq Tp tl (skq Tp tl u.1 + 1))), .int (nI (nmV Tp tl (skq Tp tl (skq Tp tl u.1 + 1)))), .int (nI u.2.2.2.1), .int (nI u.2.2.2.2.1), .ref md, .ref mh])), (mt, .inl (cI, 40, .inl (nA Tp))), (md, .inl (cI, 12, .inl (nA u.2.2.2.2.2)))] := hD
      refine lv_iload_n hx hb dX5_takesWheel_96 rfl (lv_at hl 0 rfl) ?_
      refine rn_if_eq (tgt := 111) hx hb dX5_takesWheel_97 (by decide) (by omega) (fun c97 => ?_) (fun c97 => ?_)
      · skip
        exact absurd c97 (by decide)
      refine lv_aload_n hx hb dX5_takesWheel_100 rfl (lv_at hl 2 rfl) ?_
      refine lv_aload_n hx hb dX5_takesWheel_101 rfl (lv_at hl 2 rfl) ?_
      refine va_get (D := (dC, dI)) (ci := 5) (v := .int (nI (nmV Tp tl (skq Tp tl (skq Tp tl u.1 + 1))))) (C := RX5) (T := TX5) (N := 15) hx hb hts hiX5 hown hK hP 0 rfl rfl 10 (by decide) (hts (.fieldLink RX5 107 "RestRegistersModel" "number" "I") (by decide +kernel)) (fun _ h9 => h9) rfl dX5_takesWheel_102 ?_
      refine rr_callR (va_runV (As := [.int (nI (nmV Tp tl (skq Tp tl (skq Tp tl u.1 + 1))))]) (rest := []) ⟨hx, hb, hml, hown, hts⟩ (c_X5_mayBeWide l dC dI cI cJ cS m0 mw mt ml mz mi mr md mh im tl (nmP Tp tl (skq Tp tl (skq Tp tl u.1 + 1))) (skq Tp tl (skq Tp tl u.1 + 1)) (nmV Tp tl (skq Tp tl (skq Tp tl u.1 + 1))) u.2.2.2.1 u.2.2.2.2.1 u.2.2.2.2.2 (nmV Tp tl (skq Tp tl (skq Tp tl u.1 + 1))) (hu.2) (hu5) (by omega)) (cwV 1 hts gX5_takesWheel_X5_mayBeWide rfl rfl rfl (by decide +kernel) ⟨Nat.le_of_ble_eq_true rfl, Nat.le_of_ble_eq_true rfl⟩) (rr_preV hKK (hP.sub [0, 2] rfl) rfl rfl) rfl rfl hl.1 rfl (lv_room (Nat.le_of_ble_eq_true rfl)) dX5_takesWheel_105 ⟨Nat.zero_le _, Nat.zero_le _⟩) ?_
      refine rb_if_ne (tgt := 113) hx hb dX5_takesWheel_108 (by decide) (fun c108 => ?_) (fun c108 => ?_)
      · skip
        refine lv_aload_n hx hb dX5_takesWheel_113 rfl (lv_at hl 2 rfl) ?_
        refine rr_callR (va_runV (As := []) (rest := []) ⟨hx, hb, hml, hown, hts⟩ (c_X5_here l dC dI cI cJ cS m0 mw mt ml mz mi mr md mh im tl (nmP Tp tl (skq Tp tl (skq Tp tl u.1 + 1))) (skq Tp tl (skq Tp tl u.1 + 1)) (nmV Tp tl (skq Tp tl (skq Tp tl u.1 + 1))) u.2.2.2.1 u.2.2.2.2.1 Tp (by first | assumption | omega) (b3.2.2)) (cwV 0 hts gX5_takesWheel_X5_here rfl rfl rfl (by decide +kernel) ⟨Nat.le_of_ble_eq_true rfl, Nat.le_of_ble_eq_true rfl⟩) (rr_preV hKK (hP.sub [0, 1] rfl) rfl rfl) rfl rfl hl.1 rfl (lv_room (Nat.le_of_ble_eq_true rfl)) dX5_takesWheel_114 ⟨Nat.zero_le _, Nat.zero_le _⟩) ?_
        refine lv_i2l hx hb dX5_takesWheel_117 rfl ?_
        refine lv_ldc2 (v := 48) hx hb hown (hts (.constantLong RX5 110 (48)) (by decide +kernel)) dX5_takesWheel_118 ?_
        refine lv_ldc2 (v := 57) hx hb hown (hts (.constantLong RX5 112 (57)) (by decide +kernel)) dX5_takesWheel_121 ?_
        refine rr_callR (va_runS (As := [.long ((lkI Tp tl (nmP Tp tl (skq Tp tl (skq Tp tl u.1 + 1)))).toInt64), .long 48, .long 57]) (rest := []) ⟨hx, hb, hml, hown, hts⟩ (c_X5_in l ((lkI Tp tl (nmP Tp tl (skq Tp tl (skq Tp tl u.1 + 1)))).toInt64) 48 57 ) (va_cwS 3 hts gX5_takesWheel_X5_in rfl rfl rfl (by decide +kernel) ⟨Nat.le_of_ble_eq_true rfl, Nat.le_of_ble_eq_true rfl⟩) rr_preT rfl rfl hl.1 rfl (lv_room (Nat.le_of_ble_eq_true rfl)) dX5_takesWheel_124 ⟨Nat.zero_le _, Nat.zero_le _⟩) ?_
        refine rb_if_eq (tgt := 140) hx hb dX5_takesWheel_127 (by decide) (fun c127 => ?_) (fun c127 => ?_)
        · skip
          refine lv_aload_n hx hb dX5_takesWheel_140 rfl (lv_at hl 2 rfl) ?_
          refine va_get (D := (dC, dI)) (ci := 5) (v := .ref md) (C := RX5) (T := TX5) (N := 15) hx hb hts hiX5 hown hK hP 0 rfl rfl 13 (by decide) (hts (.fieldLink RX5 29 "RestRegistersModel" "read" "[I") (by decide +kernel)) (fun _ h9 => h9) rfl dX5_takesWheel_141 ?_
          refine lv_iconst (v := (nI 2)) hx hb dX5_takesWheel_144 (by decide) ?_
          refine lv_aload_n hx hb dX5_takesWheel_145 rfl (lv_at hl 2 rfl) ?_
          refine va_get (D := (dC, dI)) (ci := 5) (v := .int (nI u.2.2.2.1)) (C := RX5) (T := TX5) (N := 15) hx hb hts hiX5 hown hK hP 0 rfl rfl 11 (by decide) (hts (.fieldLink RX5 91 "RestRegistersModel" "readMany" "I") (by decide +kernel)) (fun _ h9 => h9) rfl dX5_takesWheel_146 ?_
          refine rn_imul hx hb dX5_takesWheel_149 ?_
          refine lv_iload_n hx hb dX5_takesWheel_150 rfl (lv_at hl 1 rfl) ?_
          refine rr_top (y := nI (kcN (lkI Tp tl (skq Tp tl u.1)))) hkc.1 ?_
          refine rn_iast hx hb hK hP hD hS 2 0 rfl rfl (i := 2 * u.2.2.2.1) (by omega) (by decide) (g := nA (uN u.2.2.2.2.2 (2 * u.2.2.2.1) (kcN (lkI Tp tl (skq Tp tl u.1))))) (nA_upd _ _ _) dX5_takesWheel_151 (fun H locs hP hD hS => ?_)
          have hP : va_P (dC, dI) vwCl [(m0, .inr (5, [.ref mw, .int (bi im), .ref mt, .int (nI tl), .ref ml, .ref mz, .ref mi, .ref mr, .int (nI (nmP Tp tl (skq Tp tl (skq Tp tl u.1 + 1)))), .int (nI (skq Tp tl (skq Tp tl u.1 + 1))), .int (nI (nmV Tp tl (skq Tp tl (skq Tp tl u.1 + 1)))), .int (nI u.2.2.2.1), .int (nI u.2.2.2.2.1), .ref md, .ref mh])), (mt, .inl (cI, 40, .inl (nA Tp))), (md, .inl (cI, 12, .inl (nA (uN u.2.2.2.2.2 (2 * u.2.2.2.1) (kcN (lkI Tp tl (skq Tp tl u.1)))))))] H := hP
          have hD : va_D A [(m0, .inr (5, [.ref mw, .int (bi im), .ref mt, .int (nI tl), .ref ml, .ref mz, .ref mi, .ref mr, .int (nI (nmP Tp tl (skq Tp tl (skq Tp tl u.1 + 1)))), .int (nI (skq Tp tl (skq Tp tl u.1 + 1))), .int (nI (nmV Tp tl (skq Tp tl (skq Tp tl u.1 + 1)))), .int (nI u.2.2.2.1), .int (nI u.2.2.2.2.1), .ref md, .ref mh])), (mt, .inl (cI, 40, .inl (nA Tp))), (md, .inl (cI, 12, .inl (nA (uN u.2.2.2.2.2 (2 * u.2.2.2.1) (kcN (lkI Tp tl (skq Tp tl u.1)))))))] := hD
          refine lv_aload_n hx hb dX5_takesWheel_152 rfl (lv_at hl 2 rfl) ?_
          refine va_get (D := (dC, dI)) (ci := 5) (v := .ref md) (C := RX5) (T := TX5) (N := 15) hx hb hts hiX5 hown hK hP 0 rfl rfl 13 (by decide) (hts (.fieldLink RX5 29 "RestRegistersModel" "read" "[I") (by decide +kernel)) (fun _ h9 => h9) rfl dX5_takesWheel_153 ?_
          refine lv_iconst (v := (nI 2)) hx hb dX5_takesWheel_156 (by decide) ?_
          refine lv_aload_n hx hb dX5_takesWheel_157 rfl (lv_at hl 2 rfl) ?_
          refine va_get (D := (dC, dI)) (ci := 5) (v := .int (nI u.2.2.2.1)) (C := RX5) (T := TX5) (N := 15) hx hb hts hiX5 hown hK hP 0 rfl rfl 11 (by decide) (hts (.fieldLink RX5 91 "RestRegistersModel" "readMany" "I") (by decide +kernel)) (fun _ h9 => h9) rfl dX5_takesWheel_158 ?_
          refine rn_imul hx hb dX5_takesWheel_161 ?_
          refine lv_iconst (v := (nI 1)) hx hb dX5_takesWheel_162 (by decide) ?_
          refine rn_iadd hx hb dX5_takesWheel_163 ?_
          refine lv_aload_n hx hb dX5_takesWheel_164 rfl (lv_at hl 2 rfl) ?_
          refine va_get (D := (dC, dI)) (ci := 5) (v := .int (nI (nmV Tp tl (skq Tp tl (skq Tp tl u.1 + 1))))) (C := RX5) (T := TX5) (N := 15) hx hb hts hiX5 hown hK hP 0 rfl rfl 10 (by decide) (hts (.fieldLink RX5 107 "RestRegistersModel" "number" "I") (by decide +kernel)) (fun _ h9 => h9) rfl dX5_takesWheel_165 ?_
          refine rn_iast hx hb hK hP hD hS 2 0 rfl rfl (i := 2 * u.2.2.2.1 + 1) (by omega) (by decide) (g := nA (uN (uN u.2.2.2.2.2 (2 * u.2.2.2.1) (kcN (lkI Tp tl (skq Tp tl u.1)))) (2 * u.2.2.2.1 + 1) (nmV Tp tl (skq Tp tl (skq Tp tl u.1 + 1))))) (nA_upd _ _ _) dX5_takesWheel_168 (fun H locs hP hD hS => ?_)
          have hP : va_P (dC, dI) vwCl [(m0, .inr (5, [.ref mw, .int (bi im), .ref mt, .int (nI tl), .ref ml, .ref mz, .ref mi, .ref mr, .int (nI (nmP Tp tl (skq Tp tl (skq Tp tl u.1 + 1)))), .int (nI (skq Tp tl (skq Tp tl u.1 + 1))), .int (nI (nmV Tp tl (skq Tp tl (skq Tp tl u.1 + 1)))), .int (nI u.2.2.2.1), .int (nI u.2.2.2.2.1), .ref md, .ref mh])), (mt, .inl (cI, 40, .inl (nA Tp))), (md, .inl (cI, 12, .inl (nA (uN (uN u.2.2.2.2.2 (2 * u.2.2.2.1) (kcN (lkI Tp tl (skq Tp tl u.1)))) (2 * u.2.2.2.1 + 1) (nmV Tp tl (skq Tp tl (skq Tp tl u.1 + 1)))))))] H := hP
          have hD : va_D A [(m0, .inr (5, [.ref mw, .int (bi im), .ref mt, .int (nI tl), .ref ml, .ref mz, .ref mi, .ref mr, .int (nI (nmP Tp tl (skq Tp tl (skq Tp tl u.1 + 1)))), .int (nI (skq Tp tl (skq Tp tl u.1 + 1))), .int (nI (nmV Tp tl (skq Tp tl (skq Tp tl u.1 + 1)))), .int (nI u.2.2.2.1), .int (nI u.2.2.2.2.1), .ref md, .ref mh])), (mt, .inl (cI, 40, .inl (nA Tp))), (md, .inl (cI, 12, .inl (nA (uN (uN u.2.2.2.2.2 (2 * u.2.2.2.1) (kcN (lkI Tp tl (skq Tp tl u.1)))) (2 * u.2.2.2.1 + 1) (nmV Tp tl (skq Tp tl (skq Tp tl u.1 + 1)))))))] := hD
          refine lv_aload_n hx hb dX5_takesWheel_169 rfl (lv_at hl 2 rfl) ?_
          refine lv_dup hx hb dX5_takesWheel_170 rfl ?_
          refine va_get (D := (dC, dI)) (ci := 5) (v := .int (nI u.2.2.2.1)) (C := RX5) (T := TX5) (N := 15) hx hb hts hiX5 hown hK hP 0 rfl rfl 11 (by decide) (hts (.fieldLink RX5 91 "RestRegistersModel" "readMany" "I") (by decide +kernel)) (fun _ h9 => h9) rfl dX5_takesWheel_171 ?_
          refine lv_iconst (v := (nI 1)) hx hb dX5_takesWheel_174 (by decide) ?_
          refine rn_iadd hx hb dX5_takesWheel_175 ?_
          refine va_put (D := (dC, dI)) (ci := 5) (v := .int (nI (u.2.2.2.1 + 1))) (ty := .int) (C := RX5) (T := TX5) (N := 15) hx hb hts hiX5 tyX5 tyX5_ok nmX5 hown hK hP hD hS 0 rfl rfl 11 (by decide) (hts (.fieldLink RX5 91 "RestRegistersModel" "readMany" "I") (by decide +kernel)) (fun _ h9 => h9) rfl (by decide +kernel) rfl rfl (Nat.le_of_ble_eq_true rfl) dX5_takesWheel_176 (fun H locs hP hD hS => ?_)
          have hP : va_P (dC, dI) vwCl [(m0, .inr (5, [.ref mw, .int (bi im), .ref mt, .int (nI tl), .ref ml, .ref mz, .ref mi, .ref mr, .int (nI (nmP Tp tl (skq Tp tl (skq Tp tl u.1 + 1)))), .int (nI (skq Tp tl (skq Tp tl u.1 + 1))), .int (nI (nmV Tp tl (skq Tp tl (skq Tp tl u.1 + 1)))), .int (nI (u.2.2.2.1 + 1)), .int (nI u.2.2.2.2.1), .ref md, .ref mh])), (mt, .inl (cI, 40, .inl (nA Tp))), (md, .inl (cI, 12, .inl (nA (uN (uN u.2.2.2.2.2 (2 * u.2.2.2.1) (kcN (lkI Tp tl (skq Tp tl u.1)))) (2 * u.2.2.2.1 + 1) (nmV Tp tl (skq Tp tl (skq Tp tl u.1 + 1)))))))] H := hP
          have hD : va_D A [(m0, .inr (5, [.ref mw, .int (bi im), .ref mt, .int (nI tl), .ref ml, .ref mz, .ref mi, .ref mr, .int (nI (nmP Tp tl (skq Tp tl (skq Tp tl u.1 + 1)))), .int (nI (skq Tp tl (skq Tp tl u.1 + 1))), .int (nI (nmV Tp tl (skq Tp tl (skq Tp tl u.1 + 1)))), .int (nI (u.2.2.2.1 + 1)), .int (nI u.2.2.2.2.1), .ref md, .ref mh])), (mt, .inl (cI, 40, .inl (nA Tp))), (md, .inl (cI, 12, .inl (nA (uN (uN u.2.2.2.2.2 (2 * u.2.2.2.1) (kcN (lkI Tp tl (skq Tp tl u.1)))) (2 * u.2.2.2.1 + 1) (nmV Tp tl (skq Tp tl (skq Tp tl u.1 + 1)))))))] := hD
          refine lv_iconst (v := (nI 1)) hx hb dX5_takesWheel_179 (by decide) ?_
          rw [twS_4 c13 hd_0 c108 ((inL_dig _).symm.trans c127)]
          refine rr_top (y := bi true) rfl ?_
          exact rr_zretW hx hb hr hlocks dX5_takesWheel_180 hP hD hS (rfl)
        refine lv_aload_n hx hb dX5_takesWheel_130 rfl (lv_at hl 2 rfl) ?_
        refine lv_aload_n hx hb dX5_takesWheel_131 rfl (lv_at hl 2 rfl) ?_
        refine va_get (D := (dC, dI)) (ci := 5) (v := .int (nI (nmP Tp tl (skq Tp tl (skq Tp tl u.1 + 1))))) (C := RX5) (T := TX5) (N := 15) hx hb hts hiX5 hown hK hP 0 rfl rfl 8 (by decide) (hts (.fieldLink RX5 81 "RestRegistersModel" "at" "I") (by decide +kernel)) (fun _ h9 => h9) rfl dX5_takesWheel_132 ?_
        refine va_put (D := (dC, dI)) (ci := 5) (v := .int (nI (nmP Tp tl (skq Tp tl (skq Tp tl u.1 + 1))))) (ty := .int) (C := RX5) (T := TX5) (N := 15) hx hb hts hiX5 tyX5 tyX5_ok nmX5 hown hK hP hD hS 0 rfl rfl 9 (by decide) (hts (.fieldLink RX5 84 "RestRegistersModel" "start" "I") (by decide +kernel)) (fun _ h9 => h9) rfl (by decide +kernel) rfl rfl (Nat.le_of_ble_eq_true rfl) dX5_takesWheel_135 (fun H locs hP hD hS => ?_)
        have hP : va_P (dC, dI) vwCl [(m0, .inr (5, [.ref mw, .int (bi im), .ref mt, .int (nI tl), .ref ml, .ref mz, .ref mi, .ref mr, .int (nI (nmP Tp tl (skq Tp tl (skq Tp tl u.1 + 1)))), .int (nI (nmP Tp tl (skq Tp tl (skq Tp tl u.1 + 1)))), .int (nI (nmV Tp tl (skq Tp tl (skq Tp tl u.1 + 1)))), .int (nI u.2.2.2.1), .int (nI u.2.2.2.2.1), .ref md, .ref mh])), (mt, .inl (cI, 40, .inl (nA Tp))), (md, .inl (cI, 12, .inl (nA u.2.2.2.2.2)))] H := hP
        have hD : va_D A [(m0, .inr (5, [.ref mw, .int (bi im), .ref mt, .int (nI tl), .ref ml, .ref mz, .ref mi, .ref mr, .int (nI (nmP Tp tl (skq Tp tl (skq Tp tl u.1 + 1)))), .int (nI (nmP Tp tl (skq Tp tl (skq Tp tl u.1 + 1)))), .int (nI (nmV Tp tl (skq Tp tl (skq Tp tl u.1 + 1)))), .int (nI u.2.2.2.1), .int (nI u.2.2.2.2.1), .ref md, .ref mh])), (mt, .inl (cI, 40, .inl (nA Tp))), (md, .inl (cI, 12, .inl (nA u.2.2.2.2.2)))] := hD
        refine lv_iconst (v := (nI 0)) hx hb dX5_takesWheel_138 (by decide) ?_
        rw [twS_3 c13 hd_0 c108 ((inL_dig _).symm.trans c127)]
        refine rr_top (y := bi false) rfl ?_
        exact rr_zretW hx hb hr hlocks dX5_takesWheel_139 hP hD hS (rfl)
      refine lv_iconst (v := (nI 0)) hx hb dX5_takesWheel_111 (by decide) ?_
      rw [twS_2 c13 (Or.inr c108)]
      refine rr_top (y := bi false) rfl ?_
      exact rr_zretW hx hb hr hlocks dX5_takesWheel_112 hP hD hS (rfl)
    have hd_1 : dgB Tp tl (skq Tp tl (skq Tp tl u.1 + 1) + 1) = true := (inL_dig _).symm.trans c58
    have hd2_1 := dgB_t ht hd_1
    refine lv_aload_n hx hb dX5_takesWheel_61 rfl (lv_at hl 2 rfl) ?_
    refine lv_bipush (v := (nI 10)) hx hb dX5_takesWheel_62 (by decide) ?_
    refine lv_aload_n hx hb dX5_takesWheel_64 rfl (lv_at hl 2 rfl) ?_
    refine va_get (D := (dC, dI)) (ci := 5) (v := .int (nI (10 * 0 + (Tp (skq Tp tl (skq Tp tl u.1 + 1))) - 48))) (C := RX5) (T := TX5) (N := 15) hx hb hts hiX5 hown hK hP 0 rfl rfl 10 (by decide) (hts (.fieldLink RX5 107 "RestRegistersModel" "number" "I") (by decide +kernel)) (fun _ h9 => h9) rfl dX5_takesWheel_65 ?_
    refine rn_imul hx hb dX5_takesWheel_68 ?_
    refine lv_aload_n hx hb dX5_takesWheel_69 rfl (lv_at hl 2 rfl) ?_
    refine rr_callR (va_runV (As := []) (rest := [.int (nI (10 * (10 * 0 + (Tp (skq Tp tl (skq Tp tl u.1 + 1))) - 48))), .ref m0]) ⟨hx, hb, hml, hown, hts⟩ (c_X5_here l dC dI cI cJ cS m0 mw mt ml mz mi mr md mh im tl (skq Tp tl (skq Tp tl u.1 + 1) + 1) (skq Tp tl (skq Tp tl u.1 + 1)) (10 * 0 + (Tp (skq Tp tl (skq Tp tl u.1 + 1))) - 48) u.2.2.2.1 u.2.2.2.2.1 Tp (by first | assumption | omega) (hd2_0.1)) (cwV 0 hts gX5_takesWheel_X5_here rfl rfl rfl (by decide +kernel) ⟨Nat.le_of_ble_eq_true rfl, Nat.le_of_ble_eq_true rfl⟩) (rr_preV hKK (hP.sub [0, 1] rfl) rfl rfl) rfl rfl hl.1 rfl (lv_room (Nat.le_of_ble_eq_true rfl)) dX5_takesWheel_70 ⟨Nat.zero_le _, Nat.zero_le _⟩) ?_
    refine rr_top (y := nI (Tp (skq Tp tl (skq Tp tl u.1 + 1) + 1))) (lkI_t hd2_1.1) ?_
    refine rn_iadd hx hb dX5_takesWheel_73 ?_
    refine lv_bipush (v := (nI 48)) hx hb dX5_takesWheel_74 (by decide) ?_
    refine rn_isub hx hb dX5_takesWheel_76 (by omega) ?_
    refine va_put (D := (dC, dI)) (ci := 5) (v := .int (nI (10 * (10 * 0 + (Tp (skq Tp tl (skq Tp tl u.1 + 1))) - 48) + (Tp (skq Tp tl (skq Tp tl u.1 + 1) + 1)) - 48))) (ty := .int) (C := RX5) (T := TX5) (N := 15) hx hb hts hiX5 tyX5 tyX5_ok nmX5 hown hK hP hD hS 0 rfl rfl 10 (by decide) (hts (.fieldLink RX5 107 "RestRegistersModel" "number" "I") (by decide +kernel)) (fun _ h9 => h9) rfl (by decide +kernel) rfl rfl (Nat.le_of_ble_eq_true rfl) dX5_takesWheel_77 (fun H locs hP hD hS => ?_)
    have hP : va_P (dC, dI) vwCl [(m0, .inr (5, [.ref mw, .int (bi im), .ref mt, .int (nI tl), .ref ml, .ref mz, .ref mi, .ref mr, .int (nI (skq Tp tl (skq Tp tl u.1 + 1) + 1)), .int (nI (skq Tp tl (skq Tp tl u.1 + 1))), .int (nI (10 * (10 * 0 + (Tp (skq Tp tl (skq Tp tl u.1 + 1))) - 48) + (Tp (skq Tp tl (skq Tp tl u.1 + 1) + 1)) - 48)), .int (nI u.2.2.2.1), .int (nI u.2.2.2.2.1), .ref md, .ref mh])), (mt, .inl (cI, 40, .inl (nA Tp))), (md, .inl (cI, 12, .inl (nA u.2.2.2.2.2)))] H := hP
    have hD : va_D A [(m0, .inr (5, [.ref mw, .int (bi im), .ref mt, .int (nI tl), .ref ml, .ref mz, .ref mi, .ref mr, .int (nI (skq Tp tl (skq Tp tl u.1 + 1) + 1)), .int (nI (skq Tp tl (skq Tp tl u.1 + 1))), .int (nI (10 * (10 * 0 + (Tp (skq Tp tl (skq Tp tl u.1 + 1))) - 48) + (Tp (skq Tp tl (skq Tp tl u.1 + 1) + 1)) - 48)), .int (nI u.2.2.2.1), .int (nI u.2.2.2.2.1), .ref md, .ref mh])), (mt, .inl (cI, 40, .inl (nA Tp))), (md, .inl (cI, 12, .inl (nA u.2.2.2.2.2)))] := hD
    refine lv_iinc (v := (nI (0 + 1 + 1))) (lv' := [(2, .int (nI (0 + 1 + 1))), (1, .int (kindC (lkI Tp tl (skq Tp tl u.1)))), (0, .ref m0)]) hx hb dX5_takesWheel_80 hl (k := 0) rfl (rn_inc (0 + 1) 1) (by decide) rfl (fun ls hl => ?_)
    refine lv_aload_n hx hb dX5_takesWheel_83 rfl (lv_at hl 2 rfl) ?_
    refine lv_dup hx hb dX5_takesWheel_84 rfl ?_
    refine va_get (D := (dC, dI)) (ci := 5) (v := .int (nI (skq Tp tl (skq Tp tl u.1 + 1) + 1))) (C := RX5) (T := TX5) (N := 15) hx hb hts hiX5 hown hK hP 0 rfl rfl 8 (by decide) (hts (.fieldLink RX5 81 "RestRegistersModel" "at" "I") (by decide +kernel)) (fun _ h9 => h9) rfl dX5_takesWheel_85 ?_
    refine lv_iconst (v := (nI 1)) hx hb dX5_takesWheel_88 (by decide) ?_
    refine rn_iadd hx hb dX5_takesWheel_89 ?_
    refine va_put (D := (dC, dI)) (ci := 5) (v := .int (nI (skq Tp tl (skq Tp tl u.1 + 1) + 1 + 1))) (ty := .int) (C := RX5) (T := TX5) (N := 15) hx hb hts hiX5 tyX5 tyX5_ok nmX5 hown hK hP hD hS 0 rfl rfl 8 (by decide) (hts (.fieldLink RX5 81 "RestRegistersModel" "at" "I") (by decide +kernel)) (fun _ h9 => h9) rfl (by decide +kernel) rfl rfl (Nat.le_of_ble_eq_true rfl) dX5_takesWheel_90 (fun H locs hP hD hS => ?_)
    have hP : va_P (dC, dI) vwCl [(m0, .inr (5, [.ref mw, .int (bi im), .ref mt, .int (nI tl), .ref ml, .ref mz, .ref mi, .ref mr, .int (nI (skq Tp tl (skq Tp tl u.1 + 1) + 1 + 1)), .int (nI (skq Tp tl (skq Tp tl u.1 + 1))), .int (nI (10 * (10 * 0 + (Tp (skq Tp tl (skq Tp tl u.1 + 1))) - 48) + (Tp (skq Tp tl (skq Tp tl u.1 + 1) + 1)) - 48)), .int (nI u.2.2.2.1), .int (nI u.2.2.2.2.1), .ref md, .ref mh])), (mt, .inl (cI, 40, .inl (nA Tp))), (md, .inl (cI, 12, .inl (nA u.2.2.2.2.2)))] H := hP
    have hD : va_D A [(m0, .inr (5, [.ref mw, .int (bi im), .ref mt, .int (nI tl), .ref ml, .ref mz, .ref mi, .ref mr, .int (nI (skq Tp tl (skq Tp tl u.1 + 1) + 1 + 1)), .int (nI (skq Tp tl (skq Tp tl u.1 + 1))), .int (nI (10 * (10 * 0 + (Tp (skq Tp tl (skq Tp tl u.1 + 1))) - 48) + (Tp (skq Tp tl (skq Tp tl u.1 + 1) + 1)) - 48)), .int (nI u.2.2.2.1), .int (nI u.2.2.2.2.1), .ref md, .ref mh])), (mt, .inl (cI, 40, .inl (nA Tp))), (md, .inl (cI, 12, .inl (nA u.2.2.2.2.2)))] := hD
    refine lv_goto (tgt := 39) hx hb dX5_takesWheel_93 (by decide) ?_
    refine lv_iload_n hx hb dX5_takesWheel_39 rfl (lv_at hl 0 rfl) ?_
    refine lv_iconst (v := (nI 2)) hx hb dX5_takesWheel_40 (by decide) ?_
    refine rn_icmp_ge (tgt := 96) hx hb dX5_takesWheel_41 (by decide) (by omega) (by omega) (fun c41 => ?_) (fun c41 => ?_)
    rotate_left
    · exact absurd c41 (by decide)
    have epn := nmV_2 hd_0 hd_1
    have en : 10 * (10 * 0 + (Tp (skq Tp tl (skq Tp tl u.1 + 1))) - 48) + (Tp (skq Tp tl (skq Tp tl u.1 + 1) + 1)) - 48 = nmV Tp tl (skq Tp tl (skq Tp tl u.1 + 1)) := by rw [epn.1] ; omega
    rw [en, ← epn.2] at hP hD
    have hP : va_P (dC, dI) vwCl [(m0, .inr (5, [.ref mw, .int (bi im), .ref mt, .int (nI tl), .ref ml, .ref mz, .ref mi, .ref mr, .int (nI (nmP Tp tl (skq Tp tl (skq Tp tl u.1 + 1)))), .int (nI (skq Tp tl (skq Tp tl u.1 + 1))), .int (nI (nmV Tp tl (skq Tp tl (skq Tp tl u.1 + 1)))), .int (nI u.2.2.2.1), .int (nI u.2.2.2.2.1), .ref md, .ref mh])), (mt, .inl (cI, 40, .inl (nA Tp))), (md, .inl (cI, 12, .inl (nA u.2.2.2.2.2)))] H := hP
    have hD : va_D A [(m0, .inr (5, [.ref mw, .int (bi im), .ref mt, .int (nI tl), .ref ml, .ref mz, .ref mi, .ref mr, .int (nI (nmP Tp tl (skq Tp tl (skq Tp tl u.1 + 1)))), .int (nI (skq Tp tl (skq Tp tl u.1 + 1))), .int (nI (nmV Tp tl (skq Tp tl (skq Tp tl u.1 + 1)))), .int (nI u.2.2.2.1), .int (nI u.2.2.2.2.1), .ref md, .ref mh])), (mt, .inl (cI, 40, .inl (nA Tp))), (md, .inl (cI, 12, .inl (nA u.2.2.2.2.2)))] := hD
    refine lv_iload_n hx hb dX5_takesWheel_96 rfl (lv_at hl 0 rfl) ?_
    refine rn_if_eq (tgt := 111) hx hb dX5_takesWheel_97 (by decide) (by omega) (fun c97 => ?_) (fun c97 => ?_)
    · skip
      exact absurd c97 (by decide)
    refine lv_aload_n hx hb dX5_takesWheel_100 rfl (lv_at hl 2 rfl) ?_
    refine lv_aload_n hx hb dX5_takesWheel_101 rfl (lv_at hl 2 rfl) ?_
    refine va_get (D := (dC, dI)) (ci := 5) (v := .int (nI (nmV Tp tl (skq Tp tl (skq Tp tl u.1 + 1))))) (C := RX5) (T := TX5) (N := 15) hx hb hts hiX5 hown hK hP 0 rfl rfl 10 (by decide) (hts (.fieldLink RX5 107 "RestRegistersModel" "number" "I") (by decide +kernel)) (fun _ h9 => h9) rfl dX5_takesWheel_102 ?_
    refine rr_callR (va_runV (As := [.int (nI (nmV Tp tl (skq Tp tl (skq Tp tl u.1 + 1))))]) (rest := []) ⟨hx, hb, hml, hown, hts⟩ (c_X5_mayBeWide l dC dI cI cJ cS m0 mw mt ml mz mi mr md mh im tl (nmP Tp tl (skq Tp tl (skq Tp tl u.1 + 1))) (skq Tp tl (skq Tp tl u.1 + 1)) (nmV Tp tl (skq Tp tl (skq Tp tl u.1 + 1))) u.2.2.2.1 u.2.2.2.2.1 u.2.2.2.2.2 (nmV Tp tl (skq Tp tl (skq Tp tl u.1 + 1))) (hu.2) (hu5) (by omega)) (cwV 1 hts gX5_takesWheel_X5_mayBeWide rfl rfl rfl (by decide +kernel) ⟨Nat.le_of_ble_eq_true rfl, Nat.le_of_ble_eq_true rfl⟩) (rr_preV hKK (hP.sub [0, 2] rfl) rfl rfl) rfl rfl hl.1 rfl (lv_room (Nat.le_of_ble_eq_true rfl)) dX5_takesWheel_105 ⟨Nat.zero_le _, Nat.zero_le _⟩) ?_
    refine rb_if_ne (tgt := 113) hx hb dX5_takesWheel_108 (by decide) (fun c108 => ?_) (fun c108 => ?_)
    · skip
      refine lv_aload_n hx hb dX5_takesWheel_113 rfl (lv_at hl 2 rfl) ?_
      refine rr_callR (va_runV (As := []) (rest := []) ⟨hx, hb, hml, hown, hts⟩ (c_X5_here l dC dI cI cJ cS m0 mw mt ml mz mi mr md mh im tl (nmP Tp tl (skq Tp tl (skq Tp tl u.1 + 1))) (skq Tp tl (skq Tp tl u.1 + 1)) (nmV Tp tl (skq Tp tl (skq Tp tl u.1 + 1))) u.2.2.2.1 u.2.2.2.2.1 Tp (by first | assumption | omega) (b3.2.2)) (cwV 0 hts gX5_takesWheel_X5_here rfl rfl rfl (by decide +kernel) ⟨Nat.le_of_ble_eq_true rfl, Nat.le_of_ble_eq_true rfl⟩) (rr_preV hKK (hP.sub [0, 1] rfl) rfl rfl) rfl rfl hl.1 rfl (lv_room (Nat.le_of_ble_eq_true rfl)) dX5_takesWheel_114 ⟨Nat.zero_le _, Nat.zero_le _⟩) ?_
      refine lv_i2l hx hb dX5_takesWheel_117 rfl ?_
      refine lv_ldc2 (v := 48) hx hb hown (hts (.constantLong RX5 110 (48)) (by decide +kernel)) dX5_takesWheel_118 ?_
      refine lv_ldc2 (v := 57) hx hb hown (hts (.constantLong RX5 112 (57)) (by decide +kernel)) dX5_takesWheel_121 ?_
      refine rr_callR (va_runS (As := [.long ((lkI Tp tl (nmP Tp tl (skq Tp tl (skq Tp tl u.1 + 1)))).toInt64), .long 48, .long 57]) (rest := []) ⟨hx, hb, hml, hown, hts⟩ (c_X5_in l ((lkI Tp tl (nmP Tp tl (skq Tp tl (skq Tp tl u.1 + 1)))).toInt64) 48 57 ) (va_cwS 3 hts gX5_takesWheel_X5_in rfl rfl rfl (by decide +kernel) ⟨Nat.le_of_ble_eq_true rfl, Nat.le_of_ble_eq_true rfl⟩) rr_preT rfl rfl hl.1 rfl (lv_room (Nat.le_of_ble_eq_true rfl)) dX5_takesWheel_124 ⟨Nat.zero_le _, Nat.zero_le _⟩) ?_
      refine rb_if_eq (tgt := 140) hx hb dX5_takesWheel_127 (by decide) (fun c127 => ?_) (fun c127 => ?_)
      · skip
        refine lv_aload_n hx hb dX5_takesWheel_140 rfl (lv_at hl 2 rfl) ?_
        refine va_get (D := (dC, dI)) (ci := 5) (v := .ref md) (C := RX5) (T := TX5) (N := 15) hx hb hts hiX5 hown hK hP 0 rfl rfl 13 (by decide) (hts (.fieldLink RX5 29 "RestRegistersModel" "read" "[I") (by decide +kernel)) (fun _ h9 => h9) rfl dX5_takesWheel_141 ?_
        refine lv_iconst (v := (nI 2)) hx hb dX5_takesWheel_144 (by decide) ?_
        refine lv_aload_n hx hb dX5_takesWheel_145 rfl (lv_at hl 2 rfl) ?_
        refine va_get (D := (dC, dI)) (ci := 5) (v := .int (nI u.2.2.2.1)) (C := RX5) (T := TX5) (N := 15) hx hb hts hiX5 hown hK hP 0 rfl rfl 11 (by decide) (hts (.fieldLink RX5 91 "RestRegistersModel" "readMany" "I") (by decide +kernel)) (fun _ h9 => h9) rfl dX5_takesWheel_146 ?_
        refine rn_imul hx hb dX5_takesWheel_149 ?_
        refine lv_iload_n hx hb dX5_takesWheel_150 rfl (lv_at hl 1 rfl) ?_
        refine rr_top (y := nI (kcN (lkI Tp tl (skq Tp tl u.1)))) hkc.1 ?_
        refine rn_iast hx hb hK hP hD hS 2 0 rfl rfl (i := 2 * u.2.2.2.1) (by omega) (by decide) (g := nA (uN u.2.2.2.2.2 (2 * u.2.2.2.1) (kcN (lkI Tp tl (skq Tp tl u.1))))) (nA_upd _ _ _) dX5_takesWheel_151 (fun H locs hP hD hS => ?_)
        have hP : va_P (dC, dI) vwCl [(m0, .inr (5, [.ref mw, .int (bi im), .ref mt, .int (nI tl), .ref ml, .ref mz, .ref mi, .ref mr, .int (nI (nmP Tp tl (skq Tp tl (skq Tp tl u.1 + 1)))), .int (nI (skq Tp tl (skq Tp tl u.1 + 1))), .int (nI (nmV Tp tl (skq Tp tl (skq Tp tl u.1 + 1)))), .int (nI u.2.2.2.1), .int (nI u.2.2.2.2.1), .ref md, .ref mh])), (mt, .inl (cI, 40, .inl (nA Tp))), (md, .inl (cI, 12, .inl (nA (uN u.2.2.2.2.2 (2 * u.2.2.2.1) (kcN (lkI Tp tl (skq Tp tl u.1)))))))] H := hP
        have hD : va_D A [(m0, .inr (5, [.ref mw, .int (bi im), .ref mt, .int (nI tl), .ref ml, .ref mz, .ref mi, .ref mr, .int (nI (nmP Tp tl (skq Tp tl (skq Tp tl u.1 + 1)))), .int (nI (skq Tp tl (skq Tp tl u.1 + 1))), .int (nI (nmV Tp tl (skq Tp tl (skq Tp tl u.1 + 1)))), .int (nI u.2.2.2.1), .int (nI u.2.2.2.2.1), .ref md, .ref mh])), (mt, .inl (cI, 40, .inl (nA Tp))), (md, .inl (cI, 12, .inl (nA (uN u.2.2.2.2.2 (2 * u.2.2.2.1) (kcN (lkI Tp tl (skq Tp tl u.1)))))))] := hD
        refine lv_aload_n hx hb dX5_takesWheel_152 rfl (lv_at hl 2 rfl) ?_
        refine va_get (D := (dC, dI)) (ci := 5) (v := .ref md) (C := RX5) (T := TX5) (N := 15) hx hb hts hiX5 hown hK hP 0 rfl rfl 13 (by decide) (hts (.fieldLink RX5 29 "RestRegistersModel" "read" "[I") (by decide +kernel)) (fun _ h9 => h9) rfl dX5_takesWheel_153 ?_
        refine lv_iconst (v := (nI 2)) hx hb dX5_takesWheel_156 (by decide) ?_
        refine lv_aload_n hx hb dX5_takesWheel_157 rfl (lv_at hl 2 rfl) ?_
        refine va_get (D := (dC, dI)) (ci := 5) (v := .int (nI u.2.2.2.1)) (C := RX5) (T := TX5) (N := 15) hx hb hts hiX5 hown hK hP 0 rfl rfl 11 (by decide) (hts (.fieldLink RX5 91 "RestRegistersModel" "readMany" "I") (by decide +kernel)) (fun _ h9 => h9) rfl dX5_takesWheel_158 ?_
        refine rn_imul hx hb dX5_takesWheel_161 ?_
        refine lv_iconst (v := (nI 1)) hx hb dX5_takesWheel_162 (by decide) ?_
        refine rn_iadd hx hb dX5_takesWheel_163 ?_
        refine lv_aload_n hx hb dX5_takesWheel_164 rfl (lv_at hl 2 rfl) ?_
        refine va_get (D := (dC, dI)) (ci := 5) (v := .int (nI (nmV Tp tl (skq Tp tl (skq Tp tl u.1 + 1))))) (C := RX5) (T := TX5) (N := 15) hx hb hts hiX5 hown hK hP 0 rfl rfl 10 (by decide) (hts (.fieldLink RX5 107 "RestRegistersModel" "number" "I") (by decide +kernel)) (fun _ h9 => h9) rfl dX5_takesWheel_165 ?_
        refine rn_iast hx hb hK hP hD hS 2 0 rfl rfl (i := 2 * u.2.2.2.1 + 1) (by omega) (by decide) (g := nA (uN (uN u.2.2.2.2.2 (2 * u.2.2.2.1) (kcN (lkI Tp tl (skq Tp tl u.1)))) (2 * u.2.2.2.1 + 1) (nmV Tp tl (skq Tp tl (skq Tp tl u.1 + 1))))) (nA_upd _ _ _) dX5_takesWheel_168 (fun H locs hP hD hS => ?_)
        have hP : va_P (dC, dI) vwCl [(m0, .inr (5, [.ref mw, .int (bi im), .ref mt, .int (nI tl), .ref ml, .ref mz, .ref mi, .ref mr, .int (nI (nmP Tp tl (skq Tp tl (skq Tp tl u.1 + 1)))), .int (nI (skq Tp tl (skq Tp tl u.1 + 1))), .int (nI (nmV Tp tl (skq Tp tl (skq Tp tl u.1 + 1)))), .int (nI u.2.2.2.1), .int (nI u.2.2.2.2.1), .ref md, .ref mh])), (mt, .inl (cI, 40, .inl (nA Tp))), (md, .inl (cI, 12, .inl (nA (uN (uN u.2.2.2.2.2 (2 * u.2.2.2.1) (kcN (lkI Tp tl (skq Tp tl u.1)))) (2 * u.2.2.2.1 + 1) (nmV Tp tl (skq Tp tl (skq Tp tl u.1 + 1)))))))] H := hP
        have hD : va_D A [(m0, .inr (5, [.ref mw, .int (bi im), .ref mt, .int (nI tl), .ref ml, .ref mz, .ref mi, .ref mr, .int (nI (nmP Tp tl (skq Tp tl (skq Tp tl u.1 + 1)))), .int (nI (skq Tp tl (skq Tp tl u.1 + 1))), .int (nI (nmV Tp tl (skq Tp tl (skq Tp tl u.1 + 1)))), .int (nI u.2.2.2.1), .int (nI u.2.2.2.2.1), .ref md, .ref mh])), (mt, .inl (cI, 40, .inl (nA Tp))), (md, .inl (cI, 12, .inl (nA (uN (uN u.2.2.2.2.2 (2 * u.2.2.2.1) (kcN (lkI Tp tl (skq Tp tl u.1)))) (2 * u.2.2.2.1 + 1) (nmV Tp tl (skq Tp tl (skq Tp tl u.1 + 1)))))))] := hD
        refine lv_aload_n hx hb dX5_takesWheel_169 rfl (lv_at hl 2 rfl) ?_
        refine lv_dup hx hb dX5_takesWheel_170 rfl ?_
        refine va_get (D := (dC, dI)) (ci := 5) (v := .int (nI u.2.2.2.1)) (C := RX5) (T := TX5) (N := 15) hx hb hts hiX5 hown hK hP 0 rfl rfl 11 (by decide) (hts (.fieldLink RX5 91 "RestRegistersModel" "readMany" "I") (by decide +kernel)) (fun _ h9 => h9) rfl dX5_takesWheel_171 ?_
        refine lv_iconst (v := (nI 1)) hx hb dX5_takesWheel_174 (by decide) ?_
        refine rn_iadd hx hb dX5_takesWheel_175 ?_
        refine va_put (D := (dC, dI)) (ci := 5) (v := .int (nI (u.2.2.2.1 + 1))) (ty := .int) (C := RX5) (T := TX5) (N := 15) hx hb hts hiX5 tyX5 tyX5_ok nmX5 hown hK hP hD hS 0 rfl rfl 11 (by decide) (hts (.fieldLink RX5 91 "RestRegistersModel" "readMany" "I") (by decide +kernel)) (fun _ h9 => h9) rfl (by decide +kernel) rfl rfl (Nat.le_of_ble_eq_true rfl) dX5_takesWheel_176 (fun H locs hP hD hS => ?_)
        have hP : va_P (dC, dI) vwCl [(m0, .inr (5, [.ref mw, .int (bi im), .ref mt, .int (nI tl), .ref ml, .ref mz, .ref mi, .ref mr, .int (nI (nmP Tp tl (skq Tp tl (skq Tp tl u.1 + 1)))), .int (nI (skq Tp tl (skq Tp tl u.1 + 1))), .int (nI (nmV Tp tl (skq Tp tl (skq Tp tl u.1 + 1)))), .int (nI (u.2.2.2.1 + 1)), .int (nI u.2.2.2.2.1), .ref md, .ref mh])), (mt, .inl (cI, 40, .inl (nA Tp))), (md, .inl (cI, 12, .inl (nA (uN (uN u.2.2.2.2.2 (2 * u.2.2.2.1) (kcN (lkI Tp tl (skq Tp tl u.1)))) (2 * u.2.2.2.1 + 1) (nmV Tp tl (skq Tp tl (skq Tp tl u.1 + 1)))))))] H := hP
        have hD : va_D A [(m0, .inr (5, [.ref mw, .int (bi im), .ref mt, .int (nI tl), .ref ml, .ref mz, .ref mi, .ref mr, .int (nI (nmP Tp tl (skq Tp tl (skq Tp tl u.1 + 1)))), .int (nI (skq Tp tl (skq Tp tl u.1 + 1))), .int (nI (nmV Tp tl (skq Tp tl (skq Tp tl u.1 + 1)))), .int (nI (u.2.2.2.1 + 1)), .int (nI u.2.2.2.2.1), .ref md, .ref mh])), (mt, .inl (cI, 40, .inl (nA Tp))), (md, .inl (cI, 12, .inl (nA (uN (uN u.2.2.2.2.2 (2 * u.2.2.2.1) (kcN (lkI Tp tl (skq Tp tl u.1)))) (2 * u.2.2.2.1 + 1) (nmV Tp tl (skq Tp tl (skq Tp tl u.1 + 1)))))))] := hD
        refine lv_iconst (v := (nI 1)) hx hb dX5_takesWheel_179 (by decide) ?_
        rw [twS_4 c13 hd_0 c108 ((inL_dig _).symm.trans c127)]
        refine rr_top (y := bi true) rfl ?_
        exact rr_zretW hx hb hr hlocks dX5_takesWheel_180 hP hD hS (rfl)
      refine lv_aload_n hx hb dX5_takesWheel_130 rfl (lv_at hl 2 rfl) ?_
      refine lv_aload_n hx hb dX5_takesWheel_131 rfl (lv_at hl 2 rfl) ?_
      refine va_get (D := (dC, dI)) (ci := 5) (v := .int (nI (nmP Tp tl (skq Tp tl (skq Tp tl u.1 + 1))))) (C := RX5) (T := TX5) (N := 15) hx hb hts hiX5 hown hK hP 0 rfl rfl 8 (by decide) (hts (.fieldLink RX5 81 "RestRegistersModel" "at" "I") (by decide +kernel)) (fun _ h9 => h9) rfl dX5_takesWheel_132 ?_
      refine va_put (D := (dC, dI)) (ci := 5) (v := .int (nI (nmP Tp tl (skq Tp tl (skq Tp tl u.1 + 1))))) (ty := .int) (C := RX5) (T := TX5) (N := 15) hx hb hts hiX5 tyX5 tyX5_ok nmX5 hown hK hP hD hS 0 rfl rfl 9 (by decide) (hts (.fieldLink RX5 84 "RestRegistersModel" "start" "I") (by decide +kernel)) (fun _ h9 => h9) rfl (by decide +kernel) rfl rfl (Nat.le_of_ble_eq_true rfl) dX5_takesWheel_135 (fun H locs hP hD hS => ?_)
      have hP : va_P (dC, dI) vwCl [(m0, .inr (5, [.ref mw, .int (bi im), .ref mt, .int (nI tl), .ref ml, .ref mz, .ref mi, .ref mr, .int (nI (nmP Tp tl (skq Tp tl (skq Tp tl u.1 + 1)))), .int (nI (nmP Tp tl (skq Tp tl (skq Tp tl u.1 + 1)))), .int (nI (nmV Tp tl (skq Tp tl (skq Tp tl u.1 + 1)))), .int (nI u.2.2.2.1), .int (nI u.2.2.2.2.1), .ref md, .ref mh])), (mt, .inl (cI, 40, .inl (nA Tp))), (md, .inl (cI, 12, .inl (nA u.2.2.2.2.2)))] H := hP
      have hD : va_D A [(m0, .inr (5, [.ref mw, .int (bi im), .ref mt, .int (nI tl), .ref ml, .ref mz, .ref mi, .ref mr, .int (nI (nmP Tp tl (skq Tp tl (skq Tp tl u.1 + 1)))), .int (nI (nmP Tp tl (skq Tp tl (skq Tp tl u.1 + 1)))), .int (nI (nmV Tp tl (skq Tp tl (skq Tp tl u.1 + 1)))), .int (nI u.2.2.2.1), .int (nI u.2.2.2.2.1), .ref md, .ref mh])), (mt, .inl (cI, 40, .inl (nA Tp))), (md, .inl (cI, 12, .inl (nA u.2.2.2.2.2)))] := hD
      refine lv_iconst (v := (nI 0)) hx hb dX5_takesWheel_138 (by decide) ?_
      rw [twS_3 c13 hd_0 c108 ((inL_dig _).symm.trans c127)]
      refine rr_top (y := bi false) rfl ?_
      exact rr_zretW hx hb hr hlocks dX5_takesWheel_139 hP hD hS (rfl)
    refine lv_iconst (v := (nI 0)) hx hb dX5_takesWheel_111 (by decide) ?_
    rw [twS_2 c13 (Or.inr c108)]
    refine rr_top (y := bi false) rfl ?_
    exact rr_zretW hx hb hr hlocks dX5_takesWheel_112 hP hD hS (rfl)
  have c13 := Int32.not_le.mp c13
  refine lv_iconst (v := (nI 0)) hx hb dX5_takesWheel_16 (by decide) ?_
  rw [twS_1 c13]
  refine rr_top (y := bi false) rfl ?_
  exact rr_zretW hx hb hr hlocks dX5_takesWheel_17 hP hD hS (rfl)
