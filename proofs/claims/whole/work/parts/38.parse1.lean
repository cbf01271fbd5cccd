set_option maxHeartbeats 4000000 in
set_option maxRecDepth 100000 in
theorem c_X2_ahead (l : Launch) (dC : Nat → ClassId) (dI : Nat → Nat → Nat) (cI cJ cS : ClassId) (sz : Nat) (t0 ta q3 : Nat) (tn tp : Nat) (Tp : Nat → Nat) (ht : tpOk Tp tn) (hp : tp ≤ tn) : Met l yX2_ahead wsX2_ahead ({ frames := 0, cells := 0, slots := 0, locals := 0 }) (va_Pc [.ref t0] (rW (dC, dI) vwCl [(t0, .inr (2, [.ref ta, .int (nI tn), .int (nI tp), .ref q3])), (ta, .inl (cI, 40, .inl (nA Tp)))] (tyz cI cJ cS) sz)) (qI (lkI Tp tn (skq Tp tn tp)) (dC, dI) vwCl [(t0, .inr (2, [.ref ta, .int (nI tn), .int (nI (skq Tp tn tp)), .ref q3])), (ta, .inl (cI, 40, .inl (nA Tp)))] (va_A [(t0, .inr (2, [.ref ta, .int (nI tn), .int (nI tp), .ref q3])), (ta, .inl (cI, 40, .inl (nA Tp)))] sz)) 0 0 (va_A [(t0, .inr (2, [.ref ta, .int (nI tn), .int (nI tp), .ref q3])), (ta, .inl (cI, 40, .inl (nA Tp)))] sz) := by
  refine Met.ofW (cc := cX2_ahead) (maxL := 1) (ret := (some .int)) (by decide) rfl ?_
  intro p e s m args below meth c s₁ B hml hv
  obtain ⟨rfl, hsz, hP, hKK, hD0⟩ := hv
  have hK := hKK.1
  have hx := B.exec
  have hb := B.bytes
  have hr := B.returns
  have hts := atoms_spec (ws := wsX2_ahead) B.pre
  have hown : s.vm.findClass RX2 = some m.cls := findClass_of_methodNamed B.named
  have hlocks := B.notSynchronized
  subst hsz
  have hD := hD0.self (sz := s.heap.size)
  generalize hAe : va_A [(t0, .inr (2, [.ref ta, .int (nI tn), .int (nI tp), .ref q3])), (ta, .inl (cI, 40, .inl (nA Tp)))] s.heap.size = A at hD ⊢
  have hA : ∀ q : Nat, s.heap.size ≤ q → A q := fun q h => by rw [← hAe]; exact Or.inr h
  have hS : va_S A s.heap s.heap [] := va_S.rf
  have hP : va_P (dC, dI) vwCl [(t0, .inr (2, [.ref ta, .int (nI tn), .int (nI tp), .ref q3])), (ta, .inl (cI, 40, .inl (nA Tp)))] s.heap := hP
  have hiX2 : ∀ w ∈ wsX20, w ∈ wsX2_ahead := by decide +kernel
  have hl := lv_entry ([.ref t0]) (n := 1) (Nat.le_of_ble_eq_true rfl)
  rw [lg_entry_eq]
  generalize (lg_sl ([.ref t0]) ++ List.replicate (1 - (lg_sl ([.ref t0])).length) Slot.unset).toArray = ls at hl ⊢
  have hl : lv_has ls 1 [(0, .ref t0)] := hl
  have h40 := ht.1
  refine rlW1 (A1 := Nat) (fun H locs ls => W p l e _ s m _ below meth c H locs 0 0 _ (F0 m 0 ls [])) (fun q H locs ls => skq Tp tn tp = skq Tp tn q ∧ q ≤ tn ∧ va_P (dC, dI) vwCl [(t0, .inr (2, [.ref ta, .int (nI tn), .int (nI q), .ref q3])), (ta, .inl (cI, 40, .inl (nA Tp)))] H ∧ va_D A [(t0, .inr (2, [.ref ta, .int (nI tn), .int (nI q), .ref q3])), (ta, .inl (cI, 40, .inl (nA Tp)))] ∧ va_S A s.heap H locs ∧ lv_has ls 1 [(0, .ref t0)]) (fun q => tn - q) ?_ tp _ _ ls ⟨rfl, by omega, hP, hD, hS, lv_sub hl [0] rfl⟩
  rintro q H locs ls ⟨hq, hq2, hP, hD, hS, hl⟩ ih0
  refine lv_aload_n hx hb dX2_ahead_0 rfl (lv_at hl 0 rfl) ?_
  refine va_get (D := (dC, dI)) (ci := 2) (v := .int (nI q)) (C := RX2) (T := TX2) (N := 4) hx hb hts hiX2 hown hK hP 0 rfl rfl 2 (by decide) (hts (.fieldLink RX2 26 "RestRegisters$Tape" "place" "I") (by decide +kernel)) (fun _ h9 => h9) rfl dX2_ahead_1 ?_
  refine lv_aload_n hx hb dX2_ahead_4 rfl (lv_at hl 0 rfl) ?_
  refine va_get (D := (dC, dI)) (ci := 2) (v := .int (nI tn)) (C := RX2) (T := TX2) (N := 4) hx hb hts hiX2 hown hK hP 0 rfl rfl 1 (by decide) (hts (.fieldLink RX2 22 "RestRegisters$Tape" "length" "I") (by decide +kernel)) (fun _ h9 => h9) rfl dX2_ahead_5 ?_
  refine rn_icmp_ge (tgt := 38) hx hb dX2_ahead_8 (by decide) (by omega) (by omega) (fun c8 => ?_) (fun c8 => ?_)
  · skip
    have eq : skq Tp tn tp = q := hq.trans (skq_n (fun z => by first | exact absurd z.1 (by omega) | exact absurd z.2 c22))
    rw [eq]
    refine lv_aload_n hx hb dX2_ahead_38 rfl (lv_at hl 0 rfl) ?_
    refine va_get (D := (dC, dI)) (ci := 2) (v := .int (nI q)) (C := RX2) (T := TX2) (N := 4) hx hb hts hiX2 hown hK hP 0 rfl rfl 2 (by decide) (hts (.fieldLink RX2 26 "RestRegisters$Tape" "place" "I") (by decide +kernel)) (fun _ h9 => h9) rfl dX2_ahead_39 ?_
    refine lv_aload_n hx hb dX2_ahead_42 rfl (lv_at hl 0 rfl) ?_
    refine va_get (D := (dC, dI)) (ci := 2) (v := .int (nI tn)) (C := RX2) (T := TX2) (N := 4) hx hb hts hiX2 hown hK hP 0 rfl rfl 1 (by decide) (hts (.fieldLink RX2 22 "RestRegisters$Tape" "length" "I") (by decide +kernel)) (fun _ h9 => h9) rfl dX2_ahead_43 ?_
    refine rn_icmp_ge (tgt := 61) hx hb dX2_ahead_46 (by decide) (by omega) (by omega) (fun c46 => ?_) (fun c46 => ?_)
    · skip
      refine lv_iconst (v := (-1)) hx hb dX2_ahead_61 (by decide) ?_
      exact rr_iretW hx hb hr hlocks dX2_ahead_62 hP hD hS (by first | (rw [lkI_t (by omega)]; done) | (rw [lkI_f (by omega)]))
    refine lv_aload_n hx hb dX2_ahead_49 rfl (lv_at hl 0 rfl) ?_
    refine va_get (D := (dC, dI)) (ci := 2) (v := .ref ta) (C := RX2) (T := TX2) (N := 4) hx hb hts hiX2 hown hK hP 0 rfl rfl 0 (by decide) (hts (.fieldLink RX2 11 "RestRegisters$Tape" "letters" "[I") (by decide +kernel)) (fun _ h9 => h9) rfl dX2_ahead_50 ?_
    refine lv_aload_n hx hb dX2_ahead_53 rfl (lv_at hl 0 rfl) ?_
    refine va_get (D := (dC, dI)) (ci := 2) (v := .int (nI q)) (C := RX2) (T := TX2) (N := 4) hx hb hts hiX2 hown hK hP 0 rfl rfl 2 (by decide) (hts (.fieldLink RX2 26 "RestRegisters$Tape" "place" "I") (by decide +kernel)) (fun _ h9 => h9) rfl dX2_ahead_54 ?_
    refine rn_iald hx hb hK hP 1 0 rfl rfl (i := q) (by omega) (by decide) (v := (nI (Tp q))) rfl dX2_ahead_57 ?_
    refine lv_goto (tgt := 62) hx hb dX2_ahead_58 (by decide) ?_
    exact rr_iretW hx hb hr hlocks dX2_ahead_62 hP hD hS (by first | (rw [lkI_t (by omega)]; done) | (rw [lkI_f (by omega)]))
  refine lv_aload_n hx hb dX2_ahead_11 rfl (lv_at hl 0 rfl) ?_
  refine va_get (D := (dC, dI)) (ci := 2) (v := .ref ta) (C := RX2) (T := TX2) (N := 4) hx hb hts hiX2 hown hK hP 0 rfl rfl 0 (by decide) (hts (.fieldLink RX2 11 "RestRegisters$Tape" "letters" "[I") (by decide +kernel)) (fun _ h9 => h9) rfl dX2_ahead_12 ?_
  refine lv_aload_n hx hb dX2_ahead_15 rfl (lv_at hl 0 rfl) ?_
  refine va_get (D := (dC, dI)) (ci := 2) (v := .int (nI q)) (C := RX2) (T := TX2) (N := 4) hx hb hts hiX2 hown hK hP 0 rfl rfl 2 (by decide) (hts (.fieldLink RX2 26 "RestRegisters$Tape" "place" "I") (by decide +kernel)) (fun _ h9 => h9) rfl dX2_ahead_16 ?_
  refine rn_iald hx hb hK hP 1 0 rfl rfl (i := q) (by omega) (by decide) (v := (nI (Tp q))) rfl dX2_ahead_19 ?_
  have hch := ht.2 q (by omega)
  refine lv_bipush (v := (nI 32)) hx hb dX2_ahead_20 (by decide) ?_
  refine rn_icmp_ne (tgt := 38) hx hb dX2_ahead_22 (by decide) (by omega) (by omega) (fun c22 => ?_) (fun c22 => ?_)
  · skip
    have eq : skq Tp tn tp = q := hq.trans (skq_n (fun z => by first | exact absurd z.1 (by omega) | exact absurd z.2 c22))
    rw [eq]
    refine lv_aload_n hx hb dX2_ahead_38 rfl (lv_at hl 0 rfl) ?_
    refine va_get (D := (dC, dI)) (ci := 2) (v := .int (nI q)) (C := RX2) (T := TX2) (N := 4) hx hb hts hiX2 hown hK hP 0 rfl rfl 2 (by decide) (hts (.fieldLink RX2 26 "RestRegisters$Tape" "place" "I") (by decide +kernel)) (fun _ h9 => h9) rfl dX2_ahead_39 ?_
    refine lv_aload_n hx hb dX2_ahead_42 rfl (lv_at hl 0 rfl) ?_
    refine va_get (D := (dC, dI)) (ci := 2) (v := .int (nI tn)) (C := RX2) (T := TX2) (N := 4) hx hb hts hiX2 hown hK hP 0 rfl rfl 1 (by decide) (hts (.fieldLink RX2 22 "RestRegisters$Tape" "length" "I") (by decide +kernel)) (fun _ h9 => h9) rfl dX2_ahead_43 ?_
    refine rn_icmp_ge (tgt := 61) hx hb dX2_ahead_46 (by decide) (by omega) (by omega) (fun c46 => ?_) (fun c46 => ?_)
    · skip
      refine lv_iconst (v := (-1)) hx hb dX2_ahead_61 (by decide) ?_
      exact rr_iretW hx hb hr hlocks dX2_ahead_62 hP hD hS (by first | (rw [lkI_t (by omega)]; done) | (rw [lkI_f (by omega)]))
    refine lv_aload_n hx hb dX2_ahead_49 rfl (lv_at hl 0 rfl) ?_
    refine va_get (D := (dC, dI)) (ci := 2) (v := .ref ta) (C := RX2) (T := TX2) (N := 4) hx hb hts hiX2 hown hK hP 0 rfl rfl 0 (by decide) (hts (.fieldLink RX2 11 "RestRegisters$Tape" "letters" "[I") (by decide +kernel)) (fun _ h9 => h9) rfl dX2_ahead_50 ?_
    refine lv_aload_n hx hb dX2_ahead_53 rfl (lv_at hl 0 rfl) ?_
    refine va_get (D := (dC, dI)) (ci := 2) (v := .int (nI q)) (C := RX2) (T := TX2) (N := 4) hx hb hts hiX2 hown hK hP 0 rfl rfl 2 (by decide) (hts (.fieldLink RX2 26 "RestRegisters$Tape" "place" "I") (by decide +kernel)) (fun _ h9 => h9) rfl dX2_ahead_54 ?_
    refine rn_iald hx hb hK hP 1 0 rfl rfl (i := q) (by omega) (by decide) (v := (nI (Tp q))) rfl dX2_ahead_57 ?_
    refine lv_goto (tgt := 62) hx hb dX2_ahead_58 (by decide) ?_
    exact rr_iretW hx hb hr hlocks dX2_ahead_62 hP hD hS (by first | (rw [lkI_t (by omega)]; done) | (rw [lkI_f (by omega)]))
  refine lv_aload_n hx hb dX2_ahead_25 rfl (lv_at hl 0 rfl) ?_
  refine lv_dup hx hb dX2_ahead_26 rfl ?_
  refine va_get (D := (dC, dI)) (ci := 2) (v := .int (nI q)) (C := RX2) (T := TX2) (N := 4) hx hb hts hiX2 hown hK hP 0 rfl rfl 2 (by decide) (hts (.fieldLink RX2 26 "RestRegisters$Tape" "place" "I") (by decide +kernel)) (fun _ h9 => h9) rfl dX2_ahead_27 ?_
  refine lv_iconst (v := (nI 1)) hx hb dX2_ahead_30 (by decide) ?_
  refine rn_iadd hx hb dX2_ahead_31 ?_
  refine va_put (D := (dC, dI)) (ci := 2) (v := .int (nI (q + 1))) (ty := .int) (C := RX2) (T := TX2) (N := 4) hx hb hts hiX2 tyX2 tyX2_ok nmX2 hown hK hP hD hS 0 rfl rfl 2 (by decide) (hts (.fieldLink RX2 26 "RestRegisters$Tape" "place" "I") (by decide +kernel)) (fun _ h9 => h9) rfl (by decide +kernel) rfl rfl (Nat.le_of_ble_eq_true rfl) dX2_ahead_32 (fun H locs hP hD hS => ?_)
  have hP : va_P (dC, dI) vwCl [(t0, .inr (2, [.ref ta, .int (nI tn), .int (nI (q + 1)), .ref q3])), (ta, .inl (cI, 40, .inl (nA Tp)))] H := hP
  have hD : va_D A [(t0, .inr (2, [.ref ta, .int (nI tn), .int (nI (q + 1)), .ref q3])), (ta, .inl (cI, 40, .inl (nA Tp)))] := hD
  refine lv_goto (tgt := 0) hx hb dX2_ahead_35 (by decide) ?_
  exact ih0 (q + 1) _ _ ls ⟨hq.trans (skq_s (by omega) c22), by omega, hP, hD, hS, lv_sub hl [0] rfl⟩ (by omega)
set_option maxHeartbeats 4000000 in
set_option maxRecDepth 100000 in
theorem c_X2_parseNumber (l : Launch) (dC : Nat → ClassId) (dI : Nat → Nat → Nat) (cI cJ cS : ClassId) (sz : Nat) (t0 ta q3 : Nat) (tn tp : Nat) (Tp : Nat → Nat) (ht : tpOk Tp tn) (hp : tp ≤ tn) : Met l yX2_parseNumber wsX2_parseNumber ({ frames := 1, cells := 0, slots := 0, locals := 24 }) (va_Pc [.ref t0] (rW (dC, dI) vwCl [(t0, .inr (2, [.ref ta, .int (nI tn), .int (nI tp), .ref q3])), (ta, .inl (cI, 40, .inl (nA Tp)))] (tyz cI cJ cS) sz)) (qI (nI (nmV Tp tn tp)) (dC, dI) vwCl [(t0, .inr (2, [.ref ta, .int (nI tn), .int (nI (nmP Tp tn tp)), .ref q3])), (ta, .inl (cI, 40, .inl (nA Tp)))] (va_A [(t0, .inr (2, [.ref ta, .int (nI tn), .int (nI tp), .ref q3])), (ta, .inl (cI, 40, .inl (nA Tp)))] sz)) 0 0 (va_A [(t0, .inr (2, [.ref ta, .int (nI tn), .int (nI tp), .ref q3])), (ta, .inl (cI, 40, .inl (nA Tp)))] sz) := by
  refine Met.ofW (cc := cX2_parseNumber) (maxL := 3) (ret := (some .int)) (by decide) rfl ?_
  intro p e s m args below meth c s₁ B hml hv
  obtain ⟨rfl, hsz, hP, hKK, hD0⟩ := hv
  have hK := hKK.1
  have hx := B.exec
  have hb := B.bytes
  have hr := B.returns
  have hts := atoms_spec (ws := wsX2_parseNumber) B.pre
  have hown : s.vm.findClass RX2 = some m.cls := findClass_of_methodNamed B.named
  have hlocks := B.notSynchronized
  subst hsz
  have hD := hD0.self (sz := s.heap.size)
  generalize hAe : va_A [(t0, .inr (2, [.ref ta, .int (nI tn), .int (nI tp), .ref q3])), (ta, .inl (cI, 40, .inl (nA Tp)))] s.heap.size = A at hD ⊢
  have hA : ∀ q : Nat, s.heap.size ≤ q → A q := fun q h => by rw [← hAe]; exact Or.inr h
  have hS : va_S A s.heap s.heap [] := va_S.rf
  have hP : va_P (dC, dI) vwCl [(t0, .inr (2, [.ref ta, .int (nI tn), .int (nI tp), .ref q3])), (ta, .inl (cI, 40, .inl (nA Tp)))] s.heap := hP
  have hiX2 : ∀ w ∈ wsX20, w ∈ wsX2_parseNumber := by decide +kernel
  have hl := lv_entry ([.ref t0]) (n := 3) (Nat.le_of_ble_eq_true rfl)
  rw [lg_entry_eq]
  generalize (lg_sl ([.ref t0]) ++ List.replicate (3 - (lg_sl ([.ref t0])).length) Slot.unset).toArray = ls at hl ⊢
  have hl : lv_has ls 3 [(0, .ref t0)] := hl
  have h40 := ht.1
  refine lv_iconst (v := (nI 0)) hx hb dX2_parseNumber_0 (by decide) ?_
  refine lv_istore_n (lv' := [(1, .int (nI 0)), (0, .ref t0)]) hx hb dX2_parseNumber_1 rfl hl (by decide) rfl (fun ls hl => ?_)
  refine lv_aload_n hx hb dX2_parseNumber_2 rfl (lv_at hl 1 rfl) ?_
  refine va_get (D := (dC, dI)) (ci := 2) (v := .int (nI tp)) (C := RX2) (T := TX2) (N := 4) hx hb hts hiX2 hown hK hP 0 rfl rfl 2 (by decide) (hts (.fieldLink RX2 26 "RestRegisters$Tape" "place" "I") (by decide +kernel)) (fun _ h9 => h9) rfl dX2_parseNumber_3 ?_
  refine lv_iconst (v := (nI 2)) hx hb dX2_parseNumber_6 (by decide) ?_
  refine rn_iadd hx hb dX2_parseNumber_7 ?_
  refine lv_aload_n hx hb dX2_parseNumber_8 rfl (lv_at hl 1 rfl) ?_
  refine va_get (D := (dC, dI)) (ci := 2) (v := .int (nI tn)) (C := RX2) (T := TX2) (N := 4) hx hb hts hiX2 hown hK hP 0 rfl rfl 1 (by decide) (hts (.fieldLink RX2 22 "RestRegisters$Tape" "length" "I") (by decide +kernel)) (fun _ h9 => h9) rfl dX2_parseNumber_9 ?_
  refine va_mmin hx hb (hml.trans hl.1.symm) hown (hts (.methodLink RX2 75 Lib.Math.min.name) (by decide +kernel)) (hts (.static Lib.Math.min.name) (by decide +kernel)) (hts (.initialized "java/lang/Math") (by decide +kernel)) (hts (.code Lib.Math.min.name Lib.Math.min.code 2 (some .int)) (by decide +kernel)) (Nat.le_of_ble_eq_true rfl) (Nat.le_of_ble_eq_true rfl) (Nat.zero_le _) (Nat.zero_le _) dX2_parseNumber_12 ?_
  refine rr_top (y := (nI (min (tp + 2) tn))) (rn_min (by omega) (by omega)) ?_
  refine lv_istore_n (lv' := [(2, .int (nI (min (tp + 2) tn))), (1, .int (nI 0)), (0, .ref t0)]) hx hb dX2_parseNumber_15 rfl hl (by decide) rfl (fun ls hl => ?_)
  refine lv_aload_n hx hb dX2_parseNumber_16 rfl (lv_at hl 2 rfl) ?_
  refine va_get (D := (dC, dI)) (ci := 2) (v := .int (nI tp)) (C := RX2) (T := TX2) (N := 4) hx hb hts hiX2 hown hK hP 0 rfl rfl 2 (by decide) (hts (.fieldLink RX2 26 "RestRegisters$Tape" "place" "I") (by decide +kernel)) (fun _ h9 => h9) rfl dX2_parseNumber_17 ?_
  refine lv_iload_n hx hb dX2_parseNumber_20 rfl (lv_at hl 0 rfl) ?_
  refine rn_icmp_ge (tgt := 70) hx hb dX2_parseNumber_21 (by decide) (by omega) (by omega) (fun c21 => ?_) (fun c21 => ?_)
  · skip
    have hn_ : dgB Tp tn (tp) = false := by first | (unfold dgB; rw [lkI_t (by omega)]; exact c36) | exact dgB_not (by omega)
    have epn := nmV_0 hn_
    rw [epn.1, epn.2]
    refine lv_iload_n hx hb dX2_parseNumber_70 rfl (lv_at hl 1 rfl) ?_
    exact rr_iretW hx hb hr hlocks dX2_parseNumber_71 hP hD hS (by first | rfl | exact congrArg nI (by omega))
  have c21_0 := c21
  refine lv_aload_n hx hb dX2_parseNumber_24 rfl (lv_at hl 2 rfl) ?_
  refine va_get (D := (dC, dI)) (ci := 2) (v := .ref ta) (C := RX2) (T := TX2) (N := 4) hx hb hts hiX2 hown hK hP 0 rfl rfl 0 (by decide) (hts (.fieldLink RX2 11 "RestRegisters$Tape" "letters" "[I") (by decide +kernel)) (fun _ h9 => h9) rfl dX2_parseNumber_25 ?_
  refine lv_aload_n hx hb dX2_parseNumber_28 rfl (lv_at hl 2 rfl) ?_
  refine va_get (D := (dC, dI)) (ci := 2) (v := .int (nI tp)) (C := RX2) (T := TX2) (N := 4) hx hb hts hiX2 hown hK hP 0 rfl rfl 2 (by decide) (hts (.fieldLink RX2 26 "RestRegisters$Tape" "place" "I") (by decide +kernel)) (fun _ h9 => h9) rfl dX2_parseNumber_29 ?_
  refine rn_iald hx hb hK hP 1 0 rfl rfl (i := tp) (by omega) (by decide) (v := (nI (Tp tp))) rfl dX2_parseNumber_32 ?_
  have hch_0 := ht.2 (tp) (by omega)
  refine rr_callR (va_runS (As := [.int (nI (Tp tp))]) (rest := []) ⟨hx, hb, hml, hown, hts⟩ (c_X2_isDigit l (nI (Tp tp)) ) (va_cwS 1 hts gX2_parseNumber_X2_isDigit rfl rfl rfl (by decide +kernel) ⟨Nat.le_of_ble_eq_true rfl, Nat.le_of_ble_eq_true rfl⟩) rr_preT rfl rfl hl.1 rfl (lv_room (Nat.le_of_ble_eq_true rfl)) dX2_parseNumber_33 ⟨Nat.zero_le _, Nat.zero_le _⟩) ?_
  refine rb_if_eq (tgt := 70) hx hb dX2_parseNumber_36 (by decide) (fun c36 => ?_) (fun c36 => ?_)
  · skip
    have hn_ : dgB Tp tn (tp) = false := by first | (unfold dgB; rw [lkI_t (by omega)]; exact c36) | exact dgB_not (by omega)
    have epn := nmV_0 hn_
    rw [epn.1, epn.2]
    refine lv_iload_n hx hb dX2_parseNumber_70 rfl (lv_at hl 1 rfl) ?_
    exact rr_iretW hx hb hr hlocks dX2_parseNumber_71 hP hD hS (by first | rfl | exact congrArg nI (by omega))
  have hd_0 : dgB Tp tn (tp) = true := by unfold dgB; rw [lkI_t (by omega)]; exact c36
  have hd2_0 := dgB_t ht hd_0
  refine lv_iload_n hx hb dX2_parseNumber_39 rfl (lv_at hl 1 rfl) ?_
  refine lv_bipush (v := (nI 10)) hx hb dX2_parseNumber_40 (by decide) ?_
  refine rn_imul hx hb dX2_parseNumber_42 ?_
  refine lv_aload_n hx hb dX2_parseNumber_43 rfl (lv_at hl 2 rfl) ?_
  refine va_get (D := (dC, dI)) (ci := 2) (v := .ref ta) (C := RX2) (T := TX2) (N := 4) hx hb hts hiX2 hown hK hP 0 rfl rfl 0 (by decide) (hts (.fieldLink RX2 11 "RestRegisters$Tape" "letters" "[I") (by decide +kernel)) (fun _ h9 => h9) rfl dX2_parseNumber_44 ?_
  refine lv_aload_n hx hb dX2_parseNumber_47 rfl (lv_at hl 2 rfl) ?_
  refine va_get (D := (dC, dI)) (ci := 2) (v := .int (nI tp)) (C := RX2) (T := TX2) (N := 4) hx hb hts hiX2 hown hK hP 0 rfl rfl 2 (by decide) (hts (.fieldLink RX2 26 "RestRegisters$Tape" "place" "I") (by decide +kernel)) (fun _ h9 => h9) rfl dX2_parseNumber_48 ?_
  refine rn_iald hx hb hK hP 1 0 rfl rfl (i := tp) (by omega) (by decide) (v := (nI (Tp tp))) rfl dX2_parseNumber_51 ?_
  refine rn_iadd hx hb dX2_parseNumber_52 ?_
  refine lv_bipush (v := (nI 48)) hx hb dX2_parseNumber_53 (by decide) ?_
  refine rn_isub hx hb dX2_parseNumber_55 (by omega) ?_
  refine lv_istore_n (lv' := [(1, .int (nI (0 * 10 + (Tp tp) - 48))), (2, .int (nI (min (tp + 2) tn))), (0, .ref t0)]) hx hb dX2_parseNumber_56 rfl hl (by decide) rfl (fun ls hl => ?_)
  refine lv_aload_n hx hb dX2_parseNumber_57 rfl (lv_at hl 2 rfl) ?_
  refine lv_dup hx hb dX2_parseNumber_58 rfl ?_
  refine va_get (D := (dC, dI)) (ci := 2) (v := .int (nI tp)) (C := RX2) (T := TX2) (N := 4) hx hb hts hiX2 hown hK hP 0 rfl rfl 2 (by decide) (hts (.fieldLink RX2 26 "RestRegisters$Tape" "place" "I") (by decide +kernel)) (fun _ h9 => h9) rfl dX2_parseNumber_59 ?_
  refine lv_iconst (v := (nI 1)) hx hb dX2_parseNumber_62 (by decide) ?_
  refine rn_iadd hx hb dX2_parseNumber_63 ?_
  refine va_put (D := (dC, dI)) (ci := 2) (v := .int (nI (tp + 1))) (ty := .int) (C := RX2) (T := TX2) (N := 4) hx hb hts hiX2 tyX2 tyX2_ok nmX2 hown hK hP hD hS 0 rfl rfl 2 (by decide) (hts (.fieldLink RX2 26 "RestRegisters$Tape" "place" "I") (by decide +kernel)) (fun _ h9 => h9) rfl (by decide +kernel) rfl rfl (Nat.le_of_ble_eq_true rfl) dX2_parseNumber_64 (fun H locs hP hD hS => ?_)
  have hP : va_P (dC, dI) vwCl [(t0, .inr (2, [.ref ta, .int (nI tn), .int (nI (tp + 1)), .ref q3])), (ta, .inl (cI, 40, .inl (nA Tp)))] H := hP
  have hD : va_D A [(t0, .inr (2, [.ref ta, .int (nI tn), .int (nI (tp + 1)), .ref q3])), (ta, .inl (cI, 40, .inl (nA Tp)))] := hD
  refine lv_goto (tgt := 16) hx hb dX2_parseNumber_67 (by decide) ?_
  refine lv_aload_n hx hb dX2_parseNumber_16 rfl (lv_at hl 2 rfl) ?_
  refine va_get (D := (dC, dI)) (ci := 2) (v := .int (nI (tp + 1))) (C := RX2) (T := TX2) (N := 4) hx hb hts hiX2 hown hK hP 0 rfl rfl 2 (by decide) (hts (.fieldLink RX2 26 "RestRegisters$Tape" "place" "I") (by decide +kernel)) (fun _ h9 => h9) rfl dX2_parseNumber_17 ?_
  refine lv_iload_n hx hb dX2_parseNumber_20 rfl (lv_at hl 1 rfl) ?_
  refine rn_icmp_ge (tgt := 70) hx hb dX2_parseNumber_21 (by decide) (by omega) (by omega) (fun c21 => ?_) (fun c21 => ?_)
  · skip
    have hn_ : dgB Tp tn (tp + 1) = false := by first | (unfold dgB; rw [lkI_t (by omega)]; exact c36) | exact dgB_not (by omega)
    have epn := nmV_1 hd_0 hn_
    rw [epn.1, epn.2]
    refine lv_iload_n hx hb dX2_parseNumber_70 rfl (lv_at hl 0 rfl) ?_
    exact rr_iretW hx hb hr hlocks dX2_parseNumber_71 hP hD hS (by first | rfl | exact congrArg nI (by omega))
  have c21_1 := c21
  refine lv_aload_n hx hb dX2_parseNumber_24 rfl (lv_at hl 2 rfl) ?_
  refine va_get (D := (dC, dI)) (ci := 2) (v := .ref ta) (C := RX2) (T := TX2) (N := 4) hx hb hts hiX2 hown hK hP 0 rfl rfl 0 (by decide) (hts (.fieldLink RX2 11 "RestRegisters$Tape" "letters" "[I") (by decide +kernel)) (fun _ h9 => h9) rfl dX2_parseNumber_25 ?_
  refine lv_aload_n hx hb dX2_parseNumber_28 rfl (lv_at hl 2 rfl) ?_
  refine va_get (D := (dC, dI)) (ci := 2) (v := .int (nI (tp + 1))) (C := RX2) (T := TX2) (N := 4) hx hb hts hiX2 hown hK hP 0 rfl rfl 2 (by decide) (hts (.fieldLink RX2 26 "RestRegisters$Tape" "place" "I") (by decide +kernel)) (fun _ h9 => h9) rfl dX2_parseNumber_29 ?_
  refine rn_iald hx hb hK hP 1 0 rfl rfl (i := tp + 1) (by omega) (by decide) (v := (nI (Tp (tp + 1)))) rfl dX2_parseNumber_32 ?_
  have hch_1 := ht.2 (tp + 1) (by omega)
  refine rr_callR (va_runS (As := [.int (nI (Tp (tp + 1)))]) (rest := []) ⟨hx, hb, hml, hown, hts⟩ (c_X2_isDigit l (nI (Tp (tp + 1))) ) (va_cwS 1 hts gX2_parseNumber_X2_isDigit rfl rfl rfl (by decide +kernel) ⟨Nat.le_of_ble_eq_true rfl, Nat.le_of_ble_eq_true rfl⟩) rr_preT rfl rfl hl.1 rfl (lv_room (Nat.le_of_ble_eq_true rfl)) dX2_parseNumber_33 ⟨Nat.zero_le _, Nat.zero_le _⟩) ?_
  refine rb_if_eq (tgt := 70) hx hb dX2_parseNumber_36 (by decide) (fun c36 => ?_) (fun c36 => ?_)
  · skip
    have hn_ : dgB Tp tn (tp + 1) = false := by first | (unfold dgB; rw [lkI_t (by omega)]; exact c36) | exact dgB_not (by omega)
    have epn := nmV_1 hd_0 hn_
    rw [epn.1, epn.2]
    refine lv_iload_n hx hb dX2_parseNumber_70 rfl (lv_at hl 0 rfl) ?_
    exact rr_iretW hx hb hr hlocks dX2_parseNumber_71 hP hD hS (by first | rfl | exact congrArg nI (by omega))
  have hd_1 : dgB Tp tn (tp + 1) = true := by unfold dgB; rw [lkI_t (by omega)]; exact c36
  have hd2_1 := dgB_t ht hd_1
  refine lv_iload_n hx hb dX2_parseNumber_39 rfl (lv_at hl 0 rfl) ?_
  refine lv_bipush (v := (nI 10)) hx hb dX2_parseNumber_40 (by decide) ?_
  refine rn_imul hx hb dX2_parseNumber_42 ?_
  refine lv_aload_n hx hb dX2_parseNumber_43 rfl (lv_at hl 2 rfl) ?_
  refine va_get (D := (dC, dI)) (ci := 2) (v := .ref ta) (C := RX2) (T := TX2) (N := 4) hx hb hts hiX2 hown hK hP 0 rfl rfl 0 (by decide) (hts (.fieldLink RX2 11 "RestRegisters$Tape" "letters" "[I") (by decide +kernel)) (fun _ h9 => h9) rfl dX2_parseNumber_44 ?_
  refine lv_aload_n hx hb dX2_parseNumber_47 rfl (lv_at hl 2 rfl) ?_
  refine va_get (D := (dC, dI)) (ci := 2) (v := .int (nI (tp + 1))) (C := RX2) (T := TX2) (N := 4) hx hb hts hiX2 hown hK hP 0 rfl rfl 2 (by decide) (hts (.fieldLink RX2 26 "RestRegisters$Tape" "place" "I") (by decide +kernel)) (fun _ h9 => h9) rfl dX2_parseNumber_48 ?_
  refine rn_iald hx hb hK hP 1 0 rfl rfl (i := tp + 1) (by omega) (by decide) (v := (nI (Tp (tp + 1)))) rfl dX2_parseNumber_51 ?_
  refine rn_iadd hx hb dX2_parseNumber_52 ?_
  refine lv_bipush (v := (nI 48)) hx hb dX2_parseNumber_53 (by decide) ?_
  refine rn_isub hx hb dX2_parseNumber_55 (by omega) ?_
  refine lv_istore_n (lv' := [(1, .int (nI ((0 * 10 + (Tp tp) - 48) * 10 + (Tp (tp + 1)) - 48))), (2, .int (nI (min (tp + 2) tn))), (0, .ref t0)]) hx hb dX2_parseNumber_56 rfl hl (by decide) rfl (fun ls hl => ?_)
  refine lv_aload_n hx hb dX2_parseNumber_57 rfl (lv_at hl 2 rfl) ?_
  refine lv_dup hx hb dX2_parseNumber_58 rfl ?_
  refine va_get (D := (dC, dI)) (ci := 2) (v := .int (nI (tp + 1))) (C := RX2) (T := TX2) (N := 4) hx hb hts hiX2 hown hK hP 0 rfl rfl 2 (by decide) (hts (.fieldLink RX2 26 "RestRegisters$Tape" "place" "I") (by decide +kernel)) (fun _ h9 => h9) rfl dX2_parseNumber_59 ?_
  refine lv_iconst (v := (nI 1)) hx hb dX2_parseNumber_62 (by decide) ?_
  refine rn_iadd hx hb dX2_parseNumber_63 ?_
  refine va_put (D := (dC, dI)) (ci := 2) (v := .int (nI (tp + 1 + 1))) (ty := .int) (C := RX2) (T := TX2) (N := 4) hx hb hts hiX2 tyX2 tyX2_ok nmX2 hown hK hP hD hS 0 rfl rfl 2 (by decide) (hts (.fieldLink RX2 26 "RestRegisters$Tape" "place" "I") (by decide +kernel)) (fun _ h9 => h9) rfl (by decide +kernel) rfl rfl (Nat.le_of_ble_eq_true rfl) dX2_parseNumber_64 (fun H locs hP hD hS => ?_)
  have hP : va_P (dC, dI) vwCl [(t0, .inr (2, [.ref ta, .int (nI tn), .int (nI (tp + 1 + 1)), .ref q3])), (ta, .inl (cI, 40, .inl (nA Tp)))] H := hP
  have hD : va_D A [(t0, .inr (2, [.ref ta, .int (nI tn), .int (nI (tp + 1 + 1)), .ref q3])), (ta, .inl (cI, 40, .inl (nA Tp)))] := hD
  refine lv_goto (tgt := 16) hx hb dX2_parseNumber_67 (by decide) ?_
  refine lv_aload_n hx hb dX2_parseNumber_16 rfl (lv_at hl 2 rfl) ?_
  refine va_get (D := (dC, dI)) (ci := 2) (v := .int (nI (tp + 1 + 1))) (C := RX2) (T := TX2) (N := 4) hx hb hts hiX2 hown hK hP 0 rfl rfl 2 (by decide) (hts (.fieldLink RX2 26 "RestRegisters$Tape" "place" "I") (by decide +kernel)) (fun _ h9 => h9) rfl dX2_parseNumber_17 ?_
  refine lv_iload_n hx hb dX2_parseNumber_20 rfl (lv_at hl 1 rfl) ?_
  refine rn_icmp_ge (tgt := 70) hx hb dX2_parseNumber_21 (by decide) (by omega) (by omega) (fun c21 => ?_) (fun c21 => ?_)
  · skip
    have epn := nmV_2 hd_0 hd_1
    rw [epn.1, epn.2]
    refine lv_iload_n hx hb dX2_parseNumber_70 rfl (lv_at hl 0 rfl) ?_
    exact rr_iretW hx hb hr hlocks dX2_parseNumber_71 hP hD hS (by first | rfl | exact congrArg nI (by omega))
  have c21_2 := c21
  exact absurd c21_2 (by omega)
set_option maxHeartbeats 4000000 in
set_option maxRecDepth 100000 in
theorem c_X2_parseWheel_f (l : Launch) (dC : Nat → ClassId) (dI : Nat → Nat → Nat) (cI cJ cS : ClassId) (sz : Nat) (aK aV : Nat) (t0 ta q3 qk qw qs : Nat) (tn : Nat) (Tp : Nat → Nat) (sf : Nat → Int32) (u : PSt) (ht : tpOk Tp tn) (hu : pOk tn u) (hu5 : u.2.1 < 6) : Met l yX2_parseWheel wsX2_parseWheel ({ frames := 4, cells := 0, slots := 0, locals := 91 }) (va_Pc [.ref t0, .int (bi false)] (rWS (dC, dI) vwCl [(t0, .inr (2, [.ref ta, .int (nI tn), .int (nI u.1), .ref q3])), (ta, .inl (cI, 40, .inl (nA Tp))), (q3, .inr (3, [.int (nI u.2.1), .int (nI u.2.2.1), .int (nI u.2.2.2.1), .int (nI u.2.2.2.2.1), .ref qk, .ref qw, .ref qs])), (qk, .inl (cI, 6, .inl (nA u.2.2.2.2.2.1))), (qw, .inl (cI, 6, .inl (nA u.2.2.2.2.2.2))), (qs, .inl (cI, 6, .inl sf))] (tyz cI cJ cS) sz aK aV)) (qI ((pwS Tp tn false u).2) (dC, dI) vwCl [(t0, .inr (2, [.ref ta, .int (nI tn), .int (nI ((pwS Tp tn false u).1.1)), .ref q3])), (ta, .inl (cI, 40, .inl (nA Tp))), (q3, .inr (3, [.int (nI ((pwS Tp tn false u).1.2.1)), .int (nI ((pwS Tp tn false u).1.2.2.1)), .int (nI ((pwS Tp tn false u).1.2.2.2.1)), .int (nI ((pwS Tp tn false u).1.2.2.2.2.1)), .ref qk, .ref qw, .ref qs])), (qk, .inl (cI, 6, .inl (nA (pwS Tp tn false u).1.2.2.2.2.2.1))), (qw, .inl (cI, 6, .inl (nA (pwS Tp tn false u).1.2.2.2.2.2.2))), (qs, .inl (cI, 6, .inl sf))] (va_A [(t0, .inr (2, [.ref ta, .int (nI tn), .int (nI u.1), .ref q3])), (ta, .inl (cI, 40, .inl (nA Tp))), (q3, .inr (3, [.int (nI u.2.1), .int (nI u.2.2.1), .int (nI u.2.2.2.1), .int (nI u.2.2.2.2.1), .ref qk, .ref qw, .ref qs])), (qk, .inl (cI, 6, .inl (nA u.2.2.2.2.2.1))), (qw, .inl (cI, 6, .inl (nA u.2.2.2.2.2.2))), (qs, .inl (cI, 6, .inl sf))] sz)) 0 0 (va_A [(t0, .inr (2, [.ref ta, .int (nI tn), .int (nI u.1), .ref q3])), (ta, .inl (cI, 40, .inl (nA Tp))), (q3, .inr (3, [.int (nI u.2.1), .int (nI u.2.2.1), .int (nI u.2.2.2.1), .int (nI u.2.2.2.2.1), .ref qk, .ref qw, .ref qs])), (qk, .inl (cI, 6, .inl (nA u.2.2.2.2.2.1))), (qw, .inl (cI, 6, .inl (nA u.2.2.2.2.2.2))), (qs, .inl (cI, 6, .inl sf))] sz) := by
  refine Met.ofW (cc := cX2_parseWheel) (maxL := 6) (ret := (some .int)) (by decide) rfl ?_
  intro p e s m args below meth c s₁ B hml hv
  obtain ⟨rfl, ⟨hsz, hP, hKK, hD0⟩, hZ⟩ := hv
  have hK := hKK.1
  have hx := B.exec
  have hb := B.bytes
  have hr := B.returns
  have hts := atoms_spec (ws := wsX2_parseWheel) B.pre
  have hown : s.vm.findClass RX2 = some m.cls := findClass_of_methodNamed B.named
  have hlocks := B.notSynchronized
  subst hsz
  have hD := hD0.self (sz := s.heap.size)
  generalize hAe : va_A [(t0, .inr (2, [.ref ta, .int (nI tn), .int (nI u.1), .ref q3])), (ta, .inl (cI, 40, .inl (nA Tp))), (q3, .inr (3, [.int (nI u.2.1), .int (nI u.2.2.1), .int (nI u.2.2.2.1), .int (nI u.2.2.2.2.1), .ref qk, .ref qw, .ref qs])), (qk, .inl (cI, 6, .inl (nA u.2.2.2.2.2.1))), (qw, .inl (cI, 6, .inl (nA u.2.2.2.2.2.2))), (qs, .inl (cI, 6, .inl sf))] s.heap.size = A at hD hZ ⊢
  have hA : ∀ q : Nat, s.heap.size ≤ q → A q := fun q h => by rw [← hAe]; exact Or.inr h
  have hS : va_S A s.heap s.heap [] := va_S.rf
  have hP : va_P (dC, dI) vwCl [(t0, .inr (2, [.ref ta, .int (nI tn), .int (nI u.1), .ref q3])), (ta, .inl (cI, 40, .inl (nA Tp))), (q3, .inr (3, [.int (nI u.2.1), .int (nI u.2.2.1), .int (nI u.2.2.2.1), .int (nI u.2.2.2.2.1), .ref qk, .ref qw, .ref qs])), (qk, .inl (cI, 6, .inl (nA u.2.2.2.2.2.1))), (qw, .inl (cI, 6, .inl (nA u.2.2.2.2.2.2))), (qs, .inl (cI, 6, .inl sf))] s.heap := hP
  have hiX2 : ∀ w ∈ wsX20, w ∈ wsX2_parseWheel := by decide +kernel
  have hl := lv_entry ([.ref t0, .int (bi false)]) (n := 6) (Nat.le_of_ble_eq_true rfl)
  rw [lg_entry_eq]
  generalize (lg_sl ([.ref t0, .int (bi false)]) ++ List.replicate (6 - (lg_sl ([.ref t0, .int (bi false)])).length) Slot.unset).toArray = ls at hl ⊢
  have hl : lv_has ls 6 [(0, .ref t0), (1, .int (bi false))] := hl
  have h40 := ht.1
  have b1 := skq_b (T := Tp) hu.1
  refine lv_aload_n hx hb dX2_parseWheel_0 rfl (lv_at hl 0 rfl) ?_
  refine rw_calli (va_runV (As := []) (rest := []) ⟨hx, hb, hml, hown, hts⟩ (c_X2_ahead l dC dI cI cJ cS _ t0 ta q3 tn u.1 Tp (by first | assumption | omega) (hu.1)) (cwV 0 hts gX2_parseWheel_X2_ahead rfl rfl rfl (by decide +kernel) ⟨Nat.le_of_ble_eq_true rfl, Nat.le_of_ble_eq_true rfl⟩) (rw_preV hKK (hP.sub [0, 1] rfl) (hD.sub [0, 1] (by decide) rfl) rfl rfl) rfl rfl hl.1 rfl (lv_room (Nat.le_of_ble_eq_true rfl)) dX2_parseWheel_1 ⟨Nat.zero_le _, Nat.zero_le _⟩) (wr := [(q3, .inr (3, [.int (nI u.2.1), .int (nI u.2.2.1), .int (nI u.2.2.2.1), .int (nI u.2.2.2.2.1), .ref qk, .ref qw, .ref qs])), (qk, .inl (cI, 6, .inl (nA u.2.2.2.2.2.1))), (qw, .inl (cI, 6, .inl (nA u.2.2.2.2.2.2))), (qs, .inl (cI, 6, .inl sf))]) hP hD hS hA [0, 1] [2, 3, 4, 5] rfl rfl (by decide) (by decide) (fun H locs hP hD hS => ?_)
  have hP : va_P (dC, dI) vwCl [(t0, .inr (2, [.ref ta, .int (nI tn), .int (nI (skq Tp tn u.1)), .ref q3])), (ta, .inl (cI, 40, .inl (nA Tp))), (q3, .inr (3, [.int (nI u.2.1), .int (nI u.2.2.1), .int (nI u.2.2.2.1), .int (nI u.2.2.2.2.1), .ref qk, .ref qw, .ref qs])), (qk, .inl (cI, 6, .inl (nA u.2.2.2.2.2.1))), (qw, .inl (cI, 6, .inl (nA u.2.2.2.2.2.2))), (qs, .inl (cI, 6, .inl sf))] H := hP.sub [4, 5, 0, 1, 2, 3] rfl
  have hD : va_D A [(t0, .inr (2, [.ref ta, .int (nI tn), .int (nI (skq Tp tn u.1)), .ref q3])), (ta, .inl (cI, 40, .inl (nA Tp))), (q3, .inr (3, [.int (nI u.2.1), .int (nI u.2.2.1), .int (nI u.2.2.2.1), .int (nI u.2.2.2.2.1), .ref qk, .ref qw, .ref qs])), (qk, .inl (cI, 6, .inl (nA u.2.2.2.2.2.1))), (qw, .inl (cI, 6, .inl (nA u.2.2.2.2.2.2))), (qs, .inl (cI, 6, .inl sf))] := hD.sub [4, 5, 0, 1, 2, 3] (by decide) rfl
  refine lv_istore_n (lv' := [(2, .int (lkI Tp tn (skq Tp tn u.1))), (0, .ref t0), (1, .int (bi false))]) hx hb dX2_parseWheel_4 rfl hl (by decide) rfl (fun ls hl => ?_)
  refine lv_iload_n hx hb dX2_parseWheel_5 rfl (lv_at hl 0 rfl) ?_
  refine lv_iconst (v := (-1)) hx hb dX2_parseWheel_6 (by decide) ?_
  refine lv_icmp_ne (tgt := 14) hx hb dX2_parseWheel_7 (by decide) (fun c7 => ?_) (fun c7 => ?_)
  · skip
    refine va_ldcS hx hb hown hZ.1 dX2_parseWheel_14 ?_
    refine lv_iload_n hx hb dX2_parseWheel_16 rfl (lv_at hl 0 rfl) ?_
    have hl1 : skq Tp tn u.1 < tn := Decidable.byContradiction (fun z => c7 (lkI_f z))
    have hel : lkI Tp tn (skq Tp tn u.1) = nI (Tp (skq Tp tn u.1)) := lkI_t hl1
    have hch := ht.2 _ hl1
    refine rr_top (y := nI (Tp (skq Tp tn u.1))) hel ?_
    refine lv_i2c hx hb dX2_parseWheel_17 rfl ?_
    refine rr_top (y := nI (Tp (skq Tp tn u.1))) (i2c_small (by omega)) ?_
    refine rr_callR (va_runV (As := [.int (nI (Tp (skq Tp tn u.1)))]) (rest := []) ⟨hx, hb, hml, hown, hts⟩ (c_J0_indexOf_0f7a4 l aK aV (Tp (skq Tp tn u.1)) (by omega)) (cwV 1 hts gX2_parseWheel_J0_indexOf_0f7a4 rfl rfl rfl (by decide +kernel) ⟨Nat.le_of_ble_eq_true rfl, Nat.le_of_ble_eq_true rfl⟩) (rs_preV (hZ.kept hS.2.1)) rfl rfl hl.1 rfl (lv_room (Nat.le_of_ble_eq_true rfl)) dX2_parseWheel_18 ⟨Nat.zero_le _, Nat.zero_le _⟩) ?_
    refine rr_top (y := kindC (lkI Tp tn (skq Tp tn u.1))) (by rw [hel]) ?_
    refine lv_istore_n (lv' := [(3, .int (kindC (lkI Tp tn (skq Tp tn u.1)))), (2, .int (lkI Tp tn (skq Tp tn u.1))), (0, .ref t0), (1, .int (bi false))]) hx hb dX2_parseWheel_21 rfl hl (by decide) rfl (fun ls hl => ?_)
    refine lv_iload_n hx hb dX2_parseWheel_22 rfl (lv_at hl 0 rfl) ?_
    refine lv_if_ge (tgt := 34) hx hb dX2_parseWheel_23 (by decide) (fun c23 => ?_) (fun c23 => ?_)
    · skip
      have c23 := Int32.not_lt.mpr c23
      have hkc := kcN_ok c23
      have hlt := kc_lt c23
      have b2 := skq_b (T := Tp) (show skq Tp tn u.1 + 1 ≤ tn from hlt)
      have b3 := nmV_b ht b2.2
      refine lv_aload_n hx hb dX2_parseWheel_34 rfl (lv_at hl 2 rfl) ?_
      refine lv_dup hx hb dX2_parseWheel_35 rfl ?_
      refine va_get (D := (dC, dI)) (ci := 2) (v := .int (nI (skq Tp tn u.1))) (C := RX2) (T := TX2) (N := 4) hx hb hts hiX2 hown hK hP 0 rfl rfl 2 (by decide) (hts (.fieldLink RX2 26 "RestRegisters$Tape" "place" "I") (by decide +kernel)) (fun _ h9 => h9) rfl dX2_parseWheel_36 ?_
      refine lv_iconst (v := (nI 1)) hx hb dX2_parseWheel_39 (by decide) ?_
      refine rn_iadd hx hb dX2_parseWheel_40 ?_
      refine va_put (D := (dC, dI)) (ci := 2) (v := .int (nI (skq Tp tn u.1 + 1))) (ty := .int) (C := RX2) (T := TX2) (N := 4) hx hb hts hiX2 tyX2 tyX2_ok nmX2 hown hK hP hD hS 0 rfl rfl 2 (by decide) (hts (.fieldLink RX2 26 "RestRegisters$Tape" "place" "I") (by decide +kernel)) (fun _ h9 => h9) rfl (by decide +kernel) rfl rfl (Nat.le_of_ble_eq_true rfl) dX2_parseWheel_41 (fun H locs hP hD hS => ?_)
      have hP : va_P (dC, dI) vwCl [(t0, .inr (2, [.ref ta, .int (nI tn), .int (nI (skq Tp tn u.1 + 1)), .ref q3])), (ta, .inl (cI, 40, .inl (nA Tp))), (q3, .inr (3, [.int (nI u.2.1), .int (nI u.2.2.1), .int (nI u.2.2.2.1), .int (nI u.2.2.2.2.1), .ref qk, .ref qw, .ref qs])), (qk, .inl (cI, 6, .inl (nA u.2.2.2.2.2.1))), (qw, .inl (cI, 6, .inl (nA u.2.2.2.2.2.2))), (qs, .inl (cI, 6, .inl sf))] H := hP
      have hD : va_D A [(t0, .inr (2, [.ref ta, .int (nI tn), .int (nI (skq Tp tn u.1 + 1)), .ref q3])), (ta, .inl (cI, 40, .inl (nA Tp))), (q3, .inr (3, [.int (nI u.2.1), .int (nI u.2.2.1), .int (nI u.2.2.2.1), .int (nI u.2.2.2.2.1), .ref qk, .ref qw, .ref qs])), (qk, .inl (cI, 6, .inl (nA u.2.2.2.2.2.1))), (qw, .inl (cI, 6, .inl (nA u.2.2.2.2.2.2))), (qs, .inl (cI, 6, .inl sf))] := hD
      refine lv_aload_n hx hb dX2_parseWheel_44 rfl (lv_at hl 2 rfl) ?_
      refine rw_calli (va_runV (As := []) (rest := []) ⟨hx, hb, hml, hown, hts⟩ (c_X2_ahead l dC dI cI cJ cS _ t0 ta q3 tn (skq Tp tn u.1 + 1) Tp (by first | assumption | omega) (hlt)) (cwV 0 hts gX2_parseWheel_X2_ahead rfl rfl rfl (by decide +kernel) ⟨Nat.le_of_ble_eq_true rfl, Nat.le_of_ble_eq_true rfl⟩) (rw_preV hKK (hP.sub [0, 1] rfl) (hD.sub [0, 1] (by decide) rfl) rfl rfl) rfl rfl hl.1 rfl (lv_room (Nat.le_of_ble_eq_true rfl)) dX2_parseWheel_45 ⟨Nat.zero_le _, Nat.zero_le _⟩) (wr := [(q3, .inr (3, [.int (nI u.2.1), .int (nI u.2.2.1), .int (nI u.2.2.2.1), .int (nI u.2.2.2.2.1), .ref qk, .ref qw, .ref qs])), (qk, .inl (cI, 6, .inl (nA u.2.2.2.2.2.1))), (qw, .inl (cI, 6, .inl (nA u.2.2.2.2.2.2))), (qs, .inl (cI, 6, .inl sf))]) hP hD hS hA [0, 1] [2, 3, 4, 5] rfl rfl (by decide) (by decide) (fun H locs hP hD hS => ?_)
      have hP : va_P (dC, dI) vwCl [(t0, .inr (2, [.ref ta, .int (nI tn), .int (nI (skq Tp tn (skq Tp tn u.1 + 1))), .ref q3])), (ta, .inl (cI, 40, .inl (nA Tp))), (q3, .inr (3, [.int (nI u.2.1), .int (nI u.2.2.1), .int (nI u.2.2.2.1), .int (nI u.2.2.2.2.1), .ref qk, .ref qw, .ref qs])), (qk, .inl (cI, 6, .inl (nA u.2.2.2.2.2.1))), (qw, .inl (cI, 6, .inl (nA u.2.2.2.2.2.2))), (qs, .inl (cI, 6, .inl sf))] H := hP.sub [4, 5, 0, 1, 2, 3] rfl
      have hD : va_D A [(t0, .inr (2, [.ref ta, .int (nI tn), .int (nI (skq Tp tn (skq Tp tn u.1 + 1))), .ref q3])), (ta, .inl (cI, 40, .inl (nA Tp))), (q3, .inr (3, [.int (nI u.2.1), .int (nI u.2.2.1), .int (nI u.2.2.2.1), .int (nI u.2.2.2.2.1), .ref qk, .ref qw, .ref qs])), (qk, .inl (cI, 6, .inl (nA u.2.2.2.2.2.1))), (qw, .inl (cI, 6, .inl (nA u.2.2.2.2.2.2))), (qs, .inl (cI, 6, .inl sf))] := hD.sub [4, 5, 0, 1, 2, 3] (by decide) rfl
      refine rr_callR (va_runS (As := [.int (lkI Tp tn (skq Tp tn (skq Tp tn u.1 + 1)))]) (rest := []) ⟨hx, hb, hml, hown, hts⟩ (c_X2_isDigit l (lkI Tp tn (skq Tp tn (skq Tp tn u.1 + 1))) ) (va_cwS 1 hts gX2_parseWheel_X2_isDigit rfl rfl rfl (by decide +kernel) ⟨Nat.le_of_ble_eq_true rfl, Nat.le_of_ble_eq_true rfl⟩) rr_preT rfl rfl hl.1 rfl (lv_room (Nat.le_of_ble_eq_true rfl)) dX2_parseWheel_48 ⟨Nat.zero_le _, Nat.zero_le _⟩) ?_
      refine rb_if_ne (tgt := 62) hx hb dX2_parseWheel_51 (by decide) (fun c51 => ?_) (fun c51 => ?_)
      · skip
        refine lv_aload_n hx hb dX2_parseWheel_62 rfl (lv_at hl 2 rfl) ?_
        refine va_get (D := (dC, dI)) (ci := 2) (v := .int (nI (skq Tp tn (skq Tp tn u.1 + 1)))) (C := RX2) (T := TX2) (N := 4) hx hb hts hiX2 hown hK hP 0 rfl rfl 2 (by decide) (hts (.fieldLink RX2 26 "RestRegisters$Tape" "place" "I") (by decide +kernel)) (fun _ h9 => h9) rfl dX2_parseWheel_63 ?_
        refine lv_istore (lv' := [(4, .int (nI (skq Tp tn (skq Tp tn u.1 + 1)))), (3, .int (kindC (lkI Tp tn (skq Tp tn u.1)))), (2, .int (lkI Tp tn (skq Tp tn u.1))), (0, .ref t0), (1, .int (bi false))]) hx hb dX2_parseWheel_66 hl (by decide) rfl (fun ls hl => ?_)
        refine lv_aload_n hx hb dX2_parseWheel_68 rfl (lv_at hl 3 rfl) ?_
        refine rw_calli (va_runV (As := []) (rest := []) ⟨hx, hb, hml, hown, hts⟩ (c_X2_parseNumber l dC dI cI cJ cS _ t0 ta q3 tn (skq Tp tn (skq Tp tn u.1 + 1)) Tp (by first | assumption | omega) (b2.2)) (cwV 0 hts gX2_parseWheel_X2_parseNumber rfl rfl rfl (by decide +kernel) ⟨Nat.le_of_ble_eq_true rfl, Nat.le_of_ble_eq_true rfl⟩) (rw_preV hKK (hP.sub [0, 1] rfl) (hD.sub [0, 1] (by decide) rfl) rfl rfl) rfl rfl hl.1 rfl (lv_room (Nat.le_of_ble_eq_true rfl)) dX2_parseWheel_69 ⟨Nat.zero_le _, Nat.zero_le _⟩) (wr := [(q3, .inr (3, [.int (nI u.2.1), .int (nI u.2.2.1), .int (nI u.2.2.2.1), .int (nI u.2.2.2.2.1), .ref qk, .ref qw, .ref qs])), (qk, .inl (cI, 6, .inl (nA u.2.2.2.2.2.1))), (qw, .inl (cI, 6, .inl (nA u.2.2.2.2.2.2))), (qs, .inl (cI, 6, .inl sf))]) hP hD hS hA [0, 1] [2, 3, 4, 5] rfl rfl (by decide) (by decide) (fun H locs hP hD hS => ?_)
        have hP : va_P (dC, dI) vwCl [(t0, .inr (2, [.ref ta, .int (nI tn), .int (nI (nmP Tp tn (skq Tp tn (skq Tp tn u.1 + 1)))), .ref q3])), (ta, .inl (cI, 40, .inl (nA Tp))), (q3, .inr (3, [.int (nI u.2.1), .int (nI u.2.2.1), .int (nI u.2.2.2.1), .int (nI u.2.2.2.2.1), .ref qk, .ref qw, .ref qs])), (qk, .inl (cI, 6, .inl (nA u.2.2.2.2.2.1))), (qw, .inl (cI, 6, .inl (nA u.2.2.2.2.2.2))), (qs, .inl (cI, 6, .inl sf))] H := hP.sub [4, 5, 0, 1, 2, 3] rfl
        have hD : va_D A [(t0, .inr (2, [.ref ta, .int (nI tn), .int (nI (nmP Tp tn (skq Tp tn (skq Tp tn u.1 + 1)))), .ref q3])), (ta, .inl (cI, 40, .inl (nA Tp))), (q3, .inr (3, [.int (nI u.2.1), .int (nI u.2.2.1), .int (nI u.2.2.2.1), .int (nI u.2.2.2.2.1), .ref qk, .ref qw, .ref qs])), (qk, .inl (cI, 6, .inl (nA u.2.2.2.2.2.1))), (qw, .inl (cI, 6, .inl (nA u.2.2.2.2.2.2))), (qs, .inl (cI, 6, .inl sf))] := hD.sub [4, 5, 0, 1, 2, 3] (by decide) rfl
        refine lv_istore (lv' := [(5, .int (nI (nmV Tp tn (skq Tp tn (skq Tp tn u.1 + 1))))), (4, .int (nI (skq Tp tn (skq Tp tn u.1 + 1)))), (3, .int (kindC (lkI Tp tn (skq Tp tn u.1)))), (2, .int (lkI Tp tn (skq Tp tn u.1))), (0, .ref t0), (1, .int (bi false))]) hx hb dX2_parseWheel_72 hl (by decide) rfl (fun ls hl => ?_)
        refine lv_aload_n hx hb dX2_parseWheel_74 rfl (lv_at hl 4 rfl) ?_
        refine va_get (D := (dC, dI)) (ci := 2) (v := .ref q3) (C := RX2) (T := TX2) (N := 4) hx hb hts hiX2 hown hK hP 0 rfl rfl 3 (by decide) (hts (.fieldLink RX2 18 "RestRegisters$Tape" "draft" "LRestRegisters$Wheels;") (by decide +kernel)) (fun _ h9 => h9) rfl dX2_parseWheel_75 ?_
        refine lv_iload hx hb dX2_parseWheel_78 (lv_at hl 0 rfl) ?_
        refine rr_callR (va_runV (As := [.int (nI (nmV Tp tn (skq Tp tn (skq Tp tn u.1 + 1))))]) (rest := []) ⟨hx, hb, hml, hown, hts⟩ (c_X3_mayHave l dC dI cI cJ cS q3 qk qw qs u.2.1 u.2.2.1 u.2.2.2.1 u.2.2.2.2.1 (nA u.2.2.2.2.2.1) (nA u.2.2.2.2.2.2) sf u.2.2.2.2.2.1 u.2.2.2.2.2.2 u.2.2.2.2.2.1 (nmV Tp tn (skq Tp tn (skq Tp tn u.1 + 1))) (hu.2.1) (fun _ _ => rfl) (by omega)) (cwV 1 hts gX2_parseWheel_X3_mayHave rfl rfl rfl (by decide +kernel) ⟨Nat.le_of_ble_eq_true rfl, Nat.le_of_ble_eq_true rfl⟩) (rr_preV hKK (hP.sub [2, 3, 4, 5] rfl) rfl rfl) rfl rfl hl.1 rfl (lv_room (Nat.le_of_ble_eq_true rfl)) dX2_parseWheel_80 ⟨Nat.zero_le _, Nat.zero_le _⟩) ?_
        refine rb_if_ne (tgt := 92) hx hb dX2_parseWheel_83 (by decide) (fun c83 => ?_) (fun c83 => ?_)
        · skip
          refine lv_aload_n hx hb dX2_parseWheel_92 rfl (lv_at hl 4 rfl) ?_
          refine va_get (D := (dC, dI)) (ci := 2) (v := .ref q3) (C := RX2) (T := TX2) (N := 4) hx hb hts hiX2 hown hK hP 0 rfl rfl 3 (by decide) (hts (.fieldLink RX2 18 "RestRegisters$Tape" "draft" "LRestRegisters$Wheels;") (by decide +kernel)) (fun _ h9 => h9) rfl dX2_parseWheel_93 ?_
          refine lv_iload_n hx hb dX2_parseWheel_96 rfl (lv_at hl 2 rfl) ?_
          refine rr_top (y := nI (kcN (lkI Tp tn (skq Tp tn u.1)))) hkc.1 ?_
          refine lv_iload hx hb dX2_parseWheel_97 (lv_at hl 0 rfl) ?_
          refine lv_iload_n hx hb dX2_parseWheel_99 rfl (lv_at hl 5 rfl) ?_
          refine rw_callv (va_runV (As := [.int (nI (kcN (lkI Tp tn (skq Tp tn u.1)))), .int (nI (nmV Tp tn (skq Tp tn (skq Tp tn u.1 + 1)))), .int (bi false)]) (rest := []) ⟨hx, hb, hml, hown, hts⟩ (c_X3_append_f l dC dI cI cJ cS _ q3 qk qw qs u.2.1 u.2.2.1 u.2.2.2.1 u.2.2.2.2.1 (nA u.2.2.2.2.2.1) (nA u.2.2.2.2.2.2) sf (kcN (lkI Tp tn (skq Tp tn u.1))) (nmV Tp tn (skq Tp tn (skq Tp tn u.1 + 1))) (by first | assumption | omega)) (cwV 3 hts gX2_parseWheel_X3_append rfl rfl rfl (by decide +kernel) ⟨Nat.le_of_ble_eq_true rfl, Nat.le_of_ble_eq_true rfl⟩) (rw_preV hKK (hP.sub [2, 3, 4, 5] rfl) (hD.sub [2, 3, 4, 5] (by decide) rfl) rfl rfl) rfl rfl hl.1 rfl (lv_room (Nat.le_of_ble_eq_true rfl)) dX2_parseWheel_100 ⟨Nat.zero_le _, Nat.zero_le _⟩) (wr := [(t0, .inr (2, [.ref ta, .int (nI tn), .int (nI (nmP Tp tn (skq Tp tn (skq Tp tn u.1 + 1)))), .ref q3])), (ta, .inl (cI, 40, .inl (nA Tp)))]) hP hD hS hA [2, 3, 4, 5] [0, 1] rfl rfl (by decide) (by decide) (fun H locs hP hD hS => ?_)
          have hP : va_P (dC, dI) vwCl [(t0, .inr (2, [.ref ta, .int (nI tn), .int (nI (nmP Tp tn (skq Tp tn (skq Tp tn u.1 + 1)))), .ref q3])), (ta, .inl (cI, 40, .inl (nA Tp))), (q3, .inr (3, [.int (nI (u.2.1 + 1)), .int (nI (u.2.2.1 + 1)), .int (nI (u.2.2.2.1 * (nmV Tp tn (skq Tp tn (skq Tp tn u.1 + 1))))), .int (nI (u.2.2.2.2.1 * (nmV Tp tn (skq Tp tn (skq Tp tn u.1 + 1))))), .ref qk, .ref qw, .ref qs])), (qk, .inl (cI, 6, .inl (upd (nA u.2.2.2.2.2.1) u.2.1 (nI (kcN (lkI Tp tn (skq Tp tn u.1))))))), (qw, .inl (cI, 6, .inl (upd (nA u.2.2.2.2.2.2) u.2.1 (nI (nmV Tp tn (skq Tp tn (skq Tp tn u.1 + 1))))))), (qs, .inl (cI, 6, .inl sf))] H := hP.sub [0, 1, 2, 3, 4, 5] rfl
          have hD : va_D A [(t0, .inr (2, [.ref ta, .int (nI tn), .int (nI (nmP Tp tn (skq Tp tn (skq Tp tn u.1 + 1)))), .ref q3])), (ta, .inl (cI, 40, .inl (nA Tp))), (q3, .inr (3, [.int (nI (u.2.1 + 1)), .int (nI (u.2.2.1 + 1)), .int (nI (u.2.2.2.1 * (nmV Tp tn (skq Tp tn (skq Tp tn u.1 + 1))))), .int (nI (u.2.2.2.2.1 * (nmV Tp tn (skq Tp tn (skq Tp tn u.1 + 1))))), .ref qk, .ref qw, .ref qs])), (qk, .inl (cI, 6, .inl (upd (nA u.2.2.2.2.2.1) u.2.1 (nI (kcN (lkI Tp tn (skq Tp tn u.1))))))), (qw, .inl (cI, 6, .inl (upd (nA u.2.2.2.2.2.2) u.2.1 (nI (nmV Tp tn (skq Tp tn (skq Tp tn u.1 + 1))))))), (qs, .inl (cI, 6, .inl sf))] := hD.sub [0, 1, 2, 3, 4, 5] (by decide) rfl
          have ec : upd (nA u.2.2.2.2.2.1) u.2.1 (nI (kcN (lkI Tp tn (skq Tp tn u.1)))) = nA (uN u.2.2.2.2.2.1 u.2.1 (kcN (lkI Tp tn (skq Tp tn u.1)))) := nA_upd _ _ _
          rw [ec] at hP hD
          have hP : va_P (dC, dI) vwCl [(t0, .inr (2, [.ref ta, .int (nI tn), .int (nI (nmP Tp tn (skq Tp tn (skq Tp tn u.1 + 1)))), .ref q3])), (ta, .inl (cI, 40, .inl (nA Tp))), (q3, .inr (3, [.int (nI (u.2.1 + 1)), .int (nI (u.2.2.1 + 1)), .int (nI (u.2.2.2.1 * (nmV Tp tn (skq Tp tn (skq Tp tn u.1 + 1))))), .int (nI (u.2.2.2.2.1 * (nmV Tp tn (skq Tp tn (skq Tp tn u.1 + 1))))), .ref qk, .ref qw, .ref qs])), (qk, .inl (cI, 6, .inl (nA (uN u.2.2.2.2.2.1 u.2.1 (kcN (lkI Tp tn (skq Tp tn u.1))))))), (qw, .inl (cI, 6, .inl (upd (nA u.2.2.2.2.2.2) u.2.1 (nI (nmV Tp tn (skq Tp tn (skq Tp tn u.1 + 1))))))), (qs, .inl (cI, 6, .inl sf))] H := hP
          have hD : va_D A [(t0, .inr (2, [.ref ta, .int (nI tn), .int (nI (nmP Tp tn (skq Tp tn (skq Tp tn u.1 + 1)))), .ref q3])), (ta, .inl (cI, 40, .inl (nA Tp))), (q3, .inr (3, [.int (nI (u.2.1 + 1)), .int (nI (u.2.2.1 + 1)), .int (nI (u.2.2.2.1 * (nmV Tp tn (skq Tp tn (skq Tp tn u.1 + 1))))), .int (nI (u.2.2.2.2.1 * (nmV Tp tn (skq Tp tn (skq Tp tn u.1 + 1))))), .ref qk, .ref qw, .ref qs])), (qk, .inl (cI, 6, .inl (nA (uN u.2.2.2.2.2.1 u.2.1 (kcN (lkI Tp tn (skq Tp tn u.1))))))), (qw, .inl (cI, 6, .inl (upd (nA u.2.2.2.2.2.2) u.2.1 (nI (nmV Tp tn (skq Tp tn (skq Tp tn u.1 + 1))))))), (qs, .inl (cI, 6, .inl sf))] := hD
          have ec : upd (nA u.2.2.2.2.2.2) u.2.1 (nI (nmV Tp tn (skq Tp tn (skq Tp tn u.1 + 1)))) = nA (uN u.2.2.2.2.2.2 u.2.1 (nmV Tp tn (skq Tp tn (skq Tp tn u.1 + 1)))) := nA_upd _ _ _
          rw [ec] at hP hD
          have hP : va_P (dC, dI) vwCl [(t0, .inr (2, [.ref ta, .int (nI tn), .int (nI (nmP Tp tn (skq Tp tn (skq Tp tn u.1 + 1)))), .ref q3])), (ta, .inl (cI, 40, .inl (nA Tp))), (q3, .inr (3, [.int (nI (u.2.1 + 1)), .int (nI (u.2.2.1 + 1)), .int (nI (u.2.2.2.1 * (nmV Tp tn (skq Tp tn (skq Tp tn u.1 + 1))))), .int (nI (u.2.2.2.2.1 * (nmV Tp tn (skq Tp tn (skq Tp tn u.1 + 1))))), .ref qk, .ref qw, .ref qs])), (qk, .inl (cI, 6, .inl (nA (uN u.2.2.2.2.2.1 u.2.1 (kcN (lkI Tp tn (skq Tp tn u.1))))))), (qw, .inl (cI, 6, .inl (nA (uN u.2.2.2.2.2.2 u.2.1 (nmV Tp tn (skq Tp tn (skq Tp tn u.1 + 1))))))), (qs, .inl (cI, 6, .inl sf))] H := hP
          have hD : va_D A [(t0, .inr (2, [.ref ta, .int (nI tn), .int (nI (nmP Tp tn (skq Tp tn (skq Tp tn u.1 + 1)))), .ref q3])), (ta, .inl (cI, 40, .inl (nA Tp))), (q3, .inr (3, [.int (nI (u.2.1 + 1)), .int (nI (u.2.2.1 + 1)), .int (nI (u.2.2.2.1 * (nmV Tp tn (skq Tp tn (skq Tp tn u.1 + 1))))), .int (nI (u.2.2.2.2.1 * (nmV Tp tn (skq Tp tn (skq Tp tn u.1 + 1))))), .ref qk, .ref qw, .ref qs])), (qk, .inl (cI, 6, .inl (nA (uN u.2.2.2.2.2.1 u.2.1 (kcN (lkI Tp tn (skq Tp tn u.1))))))), (qw, .inl (cI, 6, .inl (nA (uN u.2.2.2.2.2.2 u.2.1 (nmV Tp tn (skq Tp tn (skq Tp tn u.1 + 1))))))), (qs, .inl (cI, 6, .inl sf))] := hD
          refine lv_iconst (v := (nI 0)) hx hb dX2_parseWheel_103 (by decide) ?_
          rw [pwS_4 c23 c51 c83]
          exact rr_iretW hx hb hr hlocks dX2_parseWheel_104 hP hD hS (rfl)
        refine lv_iload hx hb dX2_parseWheel_86 (lv_at hl 1 rfl) ?_
        refine rr_callR (va_runS (As := [.int (nI (skq Tp tn (skq Tp tn u.1 + 1)))]) (rest := []) ⟨hx, hb, hml, hown, hts⟩ (c_X2_faultAt l (skq Tp tn (skq Tp tn u.1 + 1)) ) (va_cwS 1 hts gX2_parseWheel_X2_faultAt rfl rfl rfl (by decide +kernel) ⟨Nat.le_of_ble_eq_true rfl, Nat.le_of_ble_eq_true rfl⟩) rr_preT rfl rfl hl.1 rfl (lv_room (Nat.le_of_ble_eq_true rfl)) dX2_parseWheel_88 ⟨Nat.zero_le _, Nat.zero_le _⟩) ?_
        rw [pwS_3 c23 c51 c83]
        exact rr_iretW hx hb hr hlocks dX2_parseWheel_91 hP hD hS (rfl)
      refine lv_aload_n hx hb dX2_parseWheel_54 rfl (lv_at hl 2 rfl) ?_
      refine va_get (D := (dC, dI)) (ci := 2) (v := .int (nI (skq Tp tn (skq Tp tn u.1 + 1)))) (C := RX2) (T := TX2) (N := 4) hx hb hts hiX2 hown hK hP 0 rfl rfl 2 (by decide) (hts (.fieldLink RX2 26 "RestRegisters$Tape" "place" "I") (by decide +kernel)) (fun _ h9 => h9) rfl dX2_parseWheel_55 ?_
      refine rr_callR (va_runS (As := [.int (nI (skq Tp tn (skq Tp tn u.1 + 1)))]) (rest := []) ⟨hx, hb, hml, hown, hts⟩ (c_X2_faultAt l (skq Tp tn (skq Tp tn u.1 + 1)) ) (va_cwS 1 hts gX2_parseWheel_X2_faultAt rfl rfl rfl (by decide +kernel) ⟨Nat.le_of_ble_eq_true rfl, Nat.le_of_ble_eq_true rfl⟩) rr_preT rfl rfl hl.1 rfl (lv_room (Nat.le_of_ble_eq_true rfl)) dX2_parseWheel_58 ⟨Nat.zero_le _, Nat.zero_le _⟩) ?_
      rw [pwS_2 c23 c51]
      exact rr_iretW hx hb hr hlocks dX2_parseWheel_61 hP hD hS (rfl)
    have c23 := Int32.not_le.mp c23
    refine lv_aload_n hx hb dX2_parseWheel_26 rfl (lv_at hl 2 rfl) ?_
    refine va_get (D := (dC, dI)) (ci := 2) (v := .int (nI (skq Tp tn u.1))) (C := RX2) (T := TX2) (N := 4) hx hb hts hiX2 hown hK hP 0 rfl rfl 2 (by decide) (hts (.fieldLink RX2 26 "RestRegisters$Tape" "place" "I") (by decide +kernel)) (fun _ h9 => h9) rfl dX2_parseWheel_27 ?_
    refine rr_callR (va_runS (As := [.int (nI (skq Tp tn u.1))]) (rest := []) ⟨hx, hb, hml, hown, hts⟩ (c_X2_faultAt l (skq Tp tn u.1) ) (va_cwS 1 hts gX2_parseWheel_X2_faultAt rfl rfl rfl (by decide +kernel) ⟨Nat.le_of_ble_eq_true rfl, Nat.le_of_ble_eq_true rfl⟩) rr_preT rfl rfl hl.1 rfl (lv_room (Nat.le_of_ble_eq_true rfl)) dX2_parseWheel_30 ⟨Nat.zero_le _, Nat.zero_le _⟩) ?_
    rw [pwS_1 c23]
    exact rr_iretW hx hb hr hlocks dX2_parseWheel_33 hP hD hS (rfl)
  refine lv_iconst (v := (-1)) hx hb dX2_parseWheel_10 (by decide) ?_
  refine lv_goto (tgt := 21) hx hb dX2_parseWheel_11 (by decide) ?_
  refine rr_top (y := kindC (lkI Tp tn (skq Tp tn u.1))) (by rw [c7]; decide) ?_
  refine lv_istore_n (lv' := [(3, .int (kindC (lkI Tp tn (skq Tp tn u.1)))), (2, .int (lkI Tp tn (skq Tp tn u.1))), (0, .ref t0), (1, .int (bi false))]) hx hb dX2_parseWheel_21 rfl hl (by decide) rfl (fun ls hl => ?_)
  refine lv_iload_n hx hb dX2_parseWheel_22 rfl (lv_at hl 0 rfl) ?_
  refine lv_if_ge (tgt := 34) hx hb dX2_parseWheel_23 (by decide) (fun c23 => ?_) (fun c23 => ?_)
  · skip
    have c23 := Int32.not_lt.mpr c23
    have hkc := kcN_ok c23
    have hlt := kc_lt c23
    have b2 := skq_b (T := Tp) (show skq Tp tn u.1 + 1 ≤ tn from hlt)
    have b3 := nmV_b ht b2.2
    refine lv_aload_n hx hb dX2_parseWheel_34 rfl (lv_at hl 2 rfl) ?_
    refine lv_dup hx hb dX2_parseWheel_35 rfl ?_
    refine va_get (D := (dC, dI)) (ci := 2) (v := .int (nI (skq Tp tn u.1))) (C := RX2) (T := TX2) (N := 4) hx hb hts hiX2 hown hK hP 0 rfl rfl 2 (by decide) (hts (.fieldLink RX2 26 "RestRegisters$Tape" "place" "I") (by decide +kernel)) (fun _ h9 => h9) rfl dX2_parseWheel_36 ?_
    refine lv_iconst (v := (nI 1)) hx hb dX2_parseWheel_39 (by decide) ?_
    refine rn_iadd hx hb dX2_parseWheel_40 ?_
    refine va_put (D := (dC, dI)) (ci := 2) (v := .int (nI (skq Tp tn u.1 + 1))) (ty := .int) (C := RX2) (T := TX2) (N := 4) hx hb hts hiX2 tyX2 tyX2_ok nmX2 hown hK hP hD hS 0 rfl rfl 2 (by decide) (hts (.fieldLink RX2 26 "RestRegisters$Tape" "place" "I") (by decide +kernel)) (fun _ h9 => h9) rfl (by decide +kernel) rfl rfl (Nat.le_of_ble_eq_true rfl) dX2_parseWheel_41 (fun H locs hP hD hS => ?_)
    have hP : va_P (dC, dI) vwCl [(t0, .inr (2, [.ref ta, .int (nI tn), .int (nI (skq Tp tn u.1 + 1)), .ref q3])), (ta, .inl (cI, 40, .inl (nA Tp))), (q3, .inr (3, [.int (nI u.2.1), .int (nI u.2.2.1), .int (nI u.2.2.2.1), .int (nI u.2.2.2.2.1), .ref qk, .ref qw, .ref qs])), (qk, .inl (cI, 6, .inl (nA u.2.2.2.2.2.1))), (qw, .inl (cI, 6, .inl (nA u.2.2.2.2.2.2))), (qs, .inl (cI, 6, .inl sf))] H := hP
    have hD : va_D A [(t0, .inr (2, [.ref ta, .int (nI tn), .int (nI (skq Tp tn u.1 + 1)), .ref q3])), (ta, .inl (cI, 40, .inl (nA Tp))), (q3, .inr (3, [.int (nI u.2.1), .int (nI u.2.2.1), .int (nI u.2.2.2.1), .int (nI u.2.2.2.2.1), .ref qk, .ref qw, .ref qs])), (qk, .inl (cI, 6, .inl (nA u.2.2.2.2.2.1))), (qw, .inl (cI, 6, .inl (nA u.2.2.2.2.2.2))), (qs, .inl (cI, 6, .inl sf))] := hD
    refine lv_aload_n hx hb dX2_parseWheel_44 rfl (lv_at hl 2 rfl) ?_
    refine rw_calli (va_runV (As := []) (rest := []) ⟨hx, hb, hml, hown, hts⟩ (c_X2_ahead l dC dI cI cJ cS _ t0 ta q3 tn (skq Tp tn u.1 + 1) Tp (by first | assumption | omega) (hlt)) (cwV 0 hts gX2_parseWheel_X2_ahead rfl rfl rfl (by decide +kernel) ⟨Nat.le_of_ble_eq_true rfl, Nat.le_of_ble_eq_true rfl⟩) (rw_preV hKK (hP.sub [0, 1] rfl) (hD.sub [0, 1] (by decide) rfl) rfl rfl) rfl rfl hl.1 rfl (lv_room (Nat.le_of_ble_eq_true rfl)) dX2_parseWheel_45 ⟨Nat.zero_le _, Nat.zero_le _⟩) (wr := [(q3, .inr (3, [.int (nI u.2.1), .int (nI u.2.2.1), .int (nI u.2.2.2.1), .int (nI u.2.2.2.2.1), .ref qk, .ref qw, .ref qs])), (qk, .inl (cI, 6, .inl (nA u.2.2.2.2.2.1))), (qw, .inl (cI, 6, .inl (nA u.2.2.2.2.2.2))), (qs, .inl (cI, 6, .inl sf))]) hP hD hS hA [0, 1] [2, 3, 4, 5] rfl rfl (by decide) (by decide) (fun H locs hP hD hS => ?_)
    have hP : va_P (dC, dI) vwCl [(t0, .inr (2, [.ref ta, .int (nI tn), .int (nI (skq Tp tn (skq Tp tn u.1 + 1))), .ref q3])), (ta, .inl (cI, 40, .inl (nA Tp))), (q3, .inr (3, [.int (nI u.2.1), .int (nI u.2.2.1), .int (nI u.2.2.2.1), .int (nI u.2.2.2.2.1), .ref qk, .ref qw, .ref qs])), (qk, .inl (cI, 6, .inl (nA u.2.2.2.2.2.1))), (qw, .inl (cI, 6, .inl (nA u.2.2.2.2.2.2))), (qs, .inl (cI, 6, .inl sf))] H := hP.sub [4, 5, 0, 1, 2, 3] rfl
    have hD : va_D A [(t0, .inr (2, [.ref ta, .int (nI tn), .int (nI (skq Tp tn (skq Tp tn u.1 + 1))), .ref q3])), (ta, .inl (cI, 40, .inl (nA Tp))), (q3, .inr (3, [.int (nI u.2.1), .int (nI u.2.2.1), .int (nI u.2.2.2.1), .int (nI u.2.2.2.2.1), .ref qk, .ref qw, .ref qs])), (qk, .inl (cI, 6, .inl (nA u.2.2.2.2.2.1))), (qw, .inl (cI, 6, .inl (nA u.2.2.2.2.2.2))), (qs, .inl (cI, 6, .inl sf))] := hD.sub [4, 5, 0, 1, 2, 3] (by decide) rfl
    refine rr_callR (va_runS (As := [.int (lkI Tp tn (skq Tp tn (skq Tp tn u.1 + 1)))]) (rest := []) ⟨hx, hb, hml, hown, hts⟩ (c_X2_isDigit l (lkI Tp tn (skq Tp tn (skq Tp tn u.1 + 1))) ) (va_cwS 1 hts gX2_parseWheel_X2_isDigit rfl rfl rfl (by decide +kernel) ⟨Nat.le_of_ble_eq_true rfl, Nat.le_of_ble_eq_true rfl⟩) rr_preT rfl rfl hl.1 rfl (lv_room (Nat.le_of_ble_eq_true rfl)) dX2_parseWheel_48 ⟨Nat.zero_le _, Nat.zero_le _⟩) ?_
    refine rb_if_ne (tgt := 62) hx hb dX2_parseWheel_51 (by decide) (fun c51 => ?_) (fun c51 => ?_)
    · skip
      refine lv_aload_n hx hb dX2_parseWheel_62 rfl (lv_at hl 2 rfl) ?_
      refine va_get (D := (dC, dI)) (ci := 2) (v := .int (nI (skq Tp tn (skq Tp tn u.1 + 1)))) (C := RX2) (T := TX2) (N := 4) hx hb hts hiX2 hown hK hP 0 rfl rfl 2 (by decide) (hts (.fieldLink RX2 26 "RestRegisters$Tape" "place" "I") (by decide +kernel)) (fun _ h9 => h9) rfl dX2_parseWheel_63 ?_
      refine lv_istore (lv' := [(4, .int (nI (skq Tp tn (skq Tp tn u.1 + 1)))), (3, .int (kindC (lkI Tp tn (skq Tp tn u.1)))), (2, .int (lkI Tp tn (skq Tp tn u.1))), (0, .ref t0), (1, .int (bi false))]) hx hb dX2_parseWheel_66 hl (by decide) rfl (fun ls hl => ?_)
      refine lv_aload_n hx hb dX2_parseWheel_68 rfl (lv_at hl 3 rfl) ?_
      refine rw_calli (va_runV (As := []) (rest := []) ⟨hx, hb, hml, hown, hts⟩ (c_X2_parseNumber l dC dI cI cJ cS _ t0 ta q3 tn (skq Tp tn (skq Tp tn u.1 + 1)) Tp (by first | assumption | omega) (b2.2)) (cwV 0 hts gX2_parseWheel_X2_parseNumber rfl rfl rfl (by decide +kernel) ⟨Nat.le_of_ble_eq_true rfl, Nat.le_of_ble_eq_true rfl⟩) (rw_preV hKK (hP.sub [0, 1] rfl) (hD.sub [0, 1] (by decide) rfl) rfl rfl) rfl rfl hl.1 rfl (lv_room (Nat.le_of_ble_eq_true rfl)) dX2_parseWheel_69 ⟨Nat.zero_le _, Nat.zero_le _⟩) (wr := [(q3, .inr (3, [.int (nI u.2.1), .int (nI u.2.2.1), .int (nI u.2.2.2.1), .int (nI u.2.2.2.2.1), .ref qk, .ref qw, .ref qs])), (qk, .inl (cI, 6, .inl (nA u.2.2.2.2.2.1))), (qw, .inl (cI, 6, .inl (nA u.2.2.2.2.2.2))), (qs, .inl (cI, 6, .inl sf))]) hP hD hS hA [0, 1] [2, 3, 4, 5] rfl rfl (by decide) (by decide) (fun H locs hP hD hS => ?_)
      have hP : va_P (dC, dI) vwCl [(t0, .inr (2, [.ref ta, .int (nI tn), .int (nI (nmP Tp tn (skq Tp tn (skq Tp tn u.1 + 1)))), .ref q3])), (ta, .inl (cI, 40, .inl (nA Tp))), (q3, .inr (3, [.int (nI u.2.1), .int (nI u.2.2.1), .int (nI u.2.2.2.1), .int (nI u.2.2.2.2.1), .ref qk, .ref qw, .ref qs])), (qk, .inl (cI, 6, .inl (nA u.2.2.2.2.2.1))), (qw, .inl (cI, 6, .inl (nA u.2.2.2.2.2.2))), (qs, .inl (cI, 6, .inl sf))] H := hP.sub [4, 5, 0, 1, 2, 3] rfl
      have hD : va_D A [(t0, .inr (2, [.ref ta, .int (nI tn), .int (nI (nmP Tp tn (skq Tp tn (skq Tp tn u.1 + 1)))), .ref q3])), (ta, .inl (cI, 40, .inl (nA Tp))), (q3, .inr (3, [.int (nI u.2.1), .int (nI u.2.2.1), .int (nI u.2.2.2.1), .int (nI u.2.2.2.2.1), .ref qk, .ref qw, .ref qs])), (qk, .inl (cI, 6, .inl (nA u.2.2.2.2.2.1))), (qw, .inl (cI, 6, .inl (nA u.2.2.2.2.2.2))), (qs, .inl (cI, 6, .inl sf))] := hD.sub [4, 5, 0, 1, 2, 3] (by decide) rfl
      refine lv_istore (lv' := [(5, .int (nI (nmV Tp tn (skq Tp tn (skq Tp tn u.1 + 1))))), (4, .int (nI (skq Tp tn (skq Tp tn u.1 + 1)))), (3, .int (kindC (lkI Tp tn (skq Tp tn u.1)))), (2, .int (lkI Tp tn (skq Tp tn u.1))), (0, .ref t0), (1, .int (bi false))]) hx hb dX2_parseWheel_72 hl (by decide) rfl (fun ls hl => ?_)
      refine lv_aload_n hx hb dX2_parseWheel_74 rfl (lv_at hl 4 rfl) ?_
      refine va_get (D := (dC, dI)) (ci := 2) (v := .ref q3) (C := RX2) (T := TX2) (N := 4) hx hb hts hiX2 hown hK hP 0 rfl rfl 3 (by decide) (hts (.fieldLink RX2 18 "RestRegisters$Tape" "draft" "LRestRegisters$Wheels;") (by decide +kernel)) (fun _ h9 => h9) rfl dX2_parseWheel_75 ?_
      refine lv_iload hx hb dX2_parseWheel_78 (lv_at hl 0 rfl) ?_
      refine rr_callR (va_runV (As := [.int (nI (nmV Tp tn (skq Tp tn (skq Tp tn u.1 + 1))))]) (rest := []) ⟨hx, hb, hml, hown, hts⟩ (c_X3_mayHave l dC dI cI cJ cS q3 qk qw qs u.2.1 u.2.2.1 u.2.2.2.1 u.2.2.2.2.1 (nA u.2.2.2.2.2.1) (nA u.2.2.2.2.2.2) sf u.2.2.2.2.2.1 u.2.2.2.2.2.2 u.2.2.2.2.2.1 (nmV Tp tn (skq Tp tn (skq Tp tn u.1 + 1))) (hu.2.1) (fun _ _ => rfl) (by omega)) (cwV 1 hts gX2_parseWheel_X3_mayHave rfl rfl rfl (by decide +kernel) ⟨Nat.le_of_ble_eq_true rfl, Nat.le_of_ble_eq_true rfl⟩) (rr_preV hKK (hP.sub [2, 3, 4, 5] rfl) rfl rfl) rfl rfl hl.1 rfl (lv_room (Nat.le_of_ble_eq_true rfl)) dX2_parseWheel_80 ⟨Nat.zero_le _, Nat.zero_le _⟩) ?_
      refine rb_if_ne (tgt := 92) hx hb dX2_parseWheel_83 (by decide) (fun c83 => ?_) (fun c83 => ?_)
      · skip
        refine lv_aload_n hx hb dX2_parseWheel_92 rfl (lv_at hl 4 rfl) ?_
        refine va_get (D := (dC, dI)) (ci := 2) (v := .ref q3) (C := RX2) (T := TX2) (N := 4) hx hb hts hiX2 hown hK hP 0 rfl rfl 3 (by decide) (hts (.fieldLink RX2 18 "RestRegisters$Tape" "draft" "LRestRegisters$Wheels;") (by decide +kernel)) (fun _ h9 => h9) rfl dX2_parseWheel_93 ?_
        refine lv_iload_n hx hb dX2_parseWheel_96 rfl (lv_at hl 2 rfl) ?_
        refine rr_top (y := nI (kcN (lkI Tp tn (skq Tp tn u.1)))) hkc.1 ?_
        refine lv_iload hx hb dX2_parseWheel_97 (lv_at hl 0 rfl) ?_
        refine lv_iload_n hx hb dX2_parseWheel_99 rfl (lv_at hl 5 rfl) ?_
        refine rw_callv (va_runV (As := [.int (nI (kcN (lkI Tp tn (skq Tp tn u.1)))), .int (nI (nmV Tp tn (skq Tp tn (skq Tp tn u.1 + 1)))), .int (bi false)]) (rest := []) ⟨hx, hb, hml, hown, hts⟩ (c_X3_append_f l dC dI cI cJ cS _ q3 qk qw qs u.2.1 u.2.2.1 u.2.2.2.1 u.2.2.2.2.1 (nA u.2.2.2.2.2.1) (nA u.2.2.2.2.2.2) sf (kcN (lkI Tp tn (skq Tp tn u.1))) (nmV Tp tn (skq Tp tn (skq Tp tn u.1 + 1))) (by first | assumption | omega)) (cwV 3 hts gX2_parseWheel_X3_append rfl rfl rfl (by decide +kernel) ⟨Nat.le_of_ble_eq_true rfl, Nat.le_of_ble_eq_true rfl⟩) (rw_preV hKK (hP.sub [2, 3, 4, 5] rfl) (hD.sub [2, 3, 4, 5] (by decide) rfl) rfl rfl) rfl rfl hl.1 rfl (lv_room (Nat.le_of_ble_eq_true rfl)) dX2_parseWheel_100 ⟨Nat.zero_le _, Nat.zero_le _⟩) (wr := [(t0, .inr (2, [.ref ta, .int (nI tn), .int (nI (nmP Tp tn (skq Tp tn (skq Tp tn u.1 + 1)))), .ref q3])), (ta, .inl (cI, 40, .inl (nA Tp)))]) hP hD hS hA [2, 3, 4, 5] [0, 1] rfl rfl (by decide) (by decide) (fun H locs hP hD hS => ?_)
        have hP : va_P (dC, dI) vwCl [(t0, .inr (2, [.ref ta, .int (nI tn), .int (nI (nmP Tp tn (skq Tp tn (skq Tp tn u.1 + 1)))), .ref q3])), (ta, .inl (cI, 40, .inl (nA Tp))), (q3, .inr (3, [.int (nI (u.2.1 + 1)), .int (nI (u.2.2.1 + 1)), .int (nI (u.2.2.2.1 * (nmV Tp tn (skq Tp tn (skq Tp tn u.1 + 1))))), .int (nI (u.2.2.2.2.1 * (nmV Tp tn (skq Tp tn (skq Tp tn u.1 + 1))))), .ref qk, .ref qw, .ref qs])), (qk, .inl (cI, 6, .inl (upd (nA u.2.2.2.2.2.1) u.2.1 (nI (kcN (lkI Tp tn (skq Tp tn u.1))))))), (qw, .inl (cI, 6, .inl (upd (nA u.2.2.2.2.2.2) u.2.1 (nI (nmV Tp tn (skq Tp tn (skq Tp tn u.1 + 1))))))), (qs, .inl (cI, 6, .inl sf))] H := hP.sub [0, 1, 2, 3, 4, 5] rfl
        have hD : va_D A [(t0, .inr (2, [.ref ta, .int (nI tn), .int (nI (nmP Tp tn (skq Tp tn (skq Tp tn u.1 + 1)))), .ref q3])), (ta, .inl (cI, 40, .inl (nA Tp))), (q3, .inr (3, [.int (nI (u.2.1 + 1)), .int (nI (u.2.2.1 + 1)), .int (nI (u.2.2.2.1 * (nmV Tp tn (skq Tp tn (skq Tp tn u.1 + 1))))), .int (nI (u.2.2.2.2.1 * (nmV Tp tn (skq Tp tn (skq Tp tn u.1 + 1))))), .ref qk, .ref qw, .ref qs])), (qk, .inl (cI, 6, .inl (upd (nA u.2.2.2.2.2.1) u.2.1 (nI (kcN (lkI Tp tn (skq Tp tn u.1))))))), (qw, .inl (cI, 6, .inl (upd (nA u.2.2.2.2.2.2) u.2.1 (nI (nmV Tp tn (skq Tp tn (skq Tp tn u.1 + 1))))))), (qs, .inl (cI, 6, .inl sf))] := hD.sub [0, 1, 2, 3, 4, 5] (by decide) rfl
        have ec : upd (nA u.2.2.2.2.2.1) u.2.1 (nI (kcN (lkI Tp tn (skq Tp tn u.1)))) = nA (uN u.2.2.2.2.2.1 u.2.1 (kcN (lkI Tp tn (skq Tp tn u.1)))) := nA_upd _ _ _
        rw [ec] at hP hD
        have hP : va_P (dC, dI) vwCl [(t0, .inr (2, [.ref ta, .int (nI tn), .int (nI (nmP Tp tn (skq Tp tn (skq Tp tn u.1 + 1)))), .ref q3])), (ta, .inl (cI, 40, .inl (nA Tp))), (q3, .inr (3, [.int (nI (u.2.1 + 1)), .int (nI (u.2.2.1 + 1)), .int (nI (u.2.2.2.1 * (nmV Tp tn (skq Tp tn (skq Tp tn u.1 + 1))))), .int (nI (u.2.2.2.2.1 * (nmV Tp tn (skq Tp tn (skq Tp tn u.1 + 1))))), .ref qk, .ref qw, .ref qs])), (qk, .inl (cI, 6, .inl (nA (uN u.2.2.2.2.2.1 u.2.1 (kcN (lkI Tp tn (skq Tp tn u.1))))))), (qw, .inl (cI, 6, .inl (upd (nA u.2.2.2.2.2.2) u.2.1 (nI (nmV Tp tn (skq Tp tn (skq Tp tn u.1 + 1))))))), (qs, .inl (cI, 6, .inl sf))] H := hP
        have hD : va_D A [(t0, .inr (2, [.ref ta, .int (nI tn), .int (nI (nmP Tp tn (skq Tp tn (skq Tp tn u.1 + 1)))), .ref q3])), (ta, .inl (cI, 40, .inl (nA Tp))), (q3, .inr (3, [.int (nI (u.2.1 + 1)), .int (nI (u.2.2.1 + 1)), .int (nI (u.2.2.2.1 * (nmV Tp tn (skq Tp tn (skq Tp tn u.1 + 1))))), .int (nI (u.2.2.2.2.1 * (nmV Tp tn (skq Tp tn (skq Tp tn u.1 + 1))))), .ref qk, .ref qw, .ref qs])), (qk, .inl (cI, 6, .inl (nA (uN u.2.2.2.2.2.1 u.2.1 (kcN (lkI Tp tn (skq Tp tn u.1))))))), (qw, .inl (cI, 6, .inl (upd (nA u.2.2.2.2.2.2) u.2.1 (nI (nmV Tp tn (skq Tp tn (skq Tp tn u.1 + 1))))))), (qs, .inl (cI, 6, .inl sf))] := hD
        have ec : upd (nA u.2.2.2.2.2.2) u.2.1 (nI (nmV Tp tn (skq Tp tn (skq Tp tn u.1 + 1)))) = nA (uN u.2.2.2.2.2.2 u.2.1 (nmV Tp tn (skq Tp tn (skq Tp tn u.1 + 1)))) := nA_upd _ _ _
        rw [ec] at hP hD
        have hP : va_P (dC, dI) vwCl [(t0, .inr (2, [.ref ta, .int (nI tn), .int (nI (nmP Tp tn (skq Tp tn (skq Tp tn u.1 + 1)))), .ref q3])), (ta, .inl (cI, 40, .inl (nA Tp))), (q3, .inr (3, [.int (nI (u.2.1 + 1)), .int (nI (u.2.2.1 + 1)), .int (nI (u.2.2.2.1 * (nmV Tp tn (skq Tp tn (skq Tp tn u.1 + 1))))), .int (nI (u.2.2.2.2.1 * (nmV Tp tn (skq Tp tn (skq Tp tn u.1 + 1))))), .ref qk, .ref qw, .ref qs])), (qk, .inl (cI, 6, .inl (nA (uN u.2.2.2.2.2.1 u.2.1 (kcN (lkI Tp tn (skq Tp tn u.1))))))), (qw, .inl (cI, 6, .inl (nA (uN u.2.2.2.2.2.2 u.2.1 (nmV Tp tn (skq Tp tn (skq Tp tn u.1 + 1))))))), (qs, .inl (cI, 6, .inl sf))] H := hP
        have hD : va_D A [(t0, .inr (2, [.ref ta, .int (nI tn), .int (nI (nmP Tp tn (skq Tp tn (skq Tp tn u.1 + 1)))), .ref q3])), (ta, .inl (cI, 40, .inl (nA Tp))), (q3, .inr (3, [.int (nI (u.2.1 + 1)), .int (nI (u.2.2.1 + 1)), .int (nI (u.2.2.2.1 * (nmV Tp tn (skq Tp tn (skq Tp tn u.1 + 1))))), .int (nI (u.2.2.2.2.1 * (nmV Tp tn (skq Tp tn (skq Tp tn u.1 + 1))))), .ref qk, .ref qw, .ref qs])), (qk, .inl (cI, 6, .inl (nA (uN u.2.2.2.2.2.1 u.2.1 (kcN (lkI Tp tn (skq Tp tn u.1))))))), (qw, .inl (cI, 6, .inl (nA (uN u.2.2.2.2.2.2 u.2.1 (nmV Tp tn (skq Tp tn (skq Tp tn u.1 + 1))))))), (qs, .inl (cI, 6, .inl sf))] := hD
        refine lv_iconst (v := (nI 0)) hx hb dX2_parseWheel_103 (by decide) ?_
        rw [pwS_4 c23 c51 c83]
        exact rr_iretW hx hb hr hlocks dX2_parseWheel_104 hP hD hS (rfl)
      refine lv_iload hx hb dX2_parseWheel_86 (lv_at hl 1 rfl) ?_
      refine rr_callR (va_runS (As := [.int (nI (skq Tp tn (skq Tp tn u.1 + 1)))]) (rest := []) ⟨hx, hb, hml, hown, hts⟩ (c_X2_faultAt l (skq Tp tn (skq Tp tn u.1 + 1)) ) (va_cwS 1 hts gX2_parseWheel_X2_faultAt rfl rfl rfl (by decide +kernel) ⟨Nat.le_of_ble_eq_true rfl, Nat.le_of_ble_eq_true rfl⟩) rr_preT rfl rfl hl.1 rfl (lv_room (Nat.le_of_ble_eq_true rfl)) dX2_parseWheel_88 ⟨Nat.zero_le _, Nat.zero_le _⟩) ?_
      rw [pwS_3 c23 c51 c83]
      exact rr_iretW hx hb hr hlocks dX2_parseWheel_91 hP hD hS (rfl)
    refine lv_aload_n hx hb dX2_parseWheel_54 rfl (lv_at hl 2 rfl) ?_
    refine va_get (D := (dC, dI)) (ci := 2) (v := .int (nI (skq Tp tn (skq Tp tn u.1 + 1)))) (C := RX2) (T := TX2) (N := 4) hx hb hts hiX2 hown hK hP 0 rfl rfl 2 (by decide) (hts (.fieldLink RX2 26 "RestRegisters$Tape" "place" "I") (by decide +kernel)) (fun _ h9 => h9) rfl dX2_parseWheel_55 ?_
    refine rr_callR (va_runS (As := [.int (nI (skq Tp tn (skq Tp tn u.1 + 1)))]) (rest := []) ⟨hx, hb, hml, hown, hts⟩ (c_X2_faultAt l (skq Tp tn (skq Tp tn u.1 + 1)) ) (va_cwS 1 hts gX2_parseWheel_X2_faultAt rfl rfl rfl (by decide +kernel) ⟨Nat.le_of_ble_eq_true rfl, Nat.le_of_ble_eq_true rfl⟩) rr_preT rfl rfl hl.1 rfl (lv_room (Nat.le_of_ble_eq_true rfl)) dX2_parseWheel_58 ⟨Nat.zero_le _, Nat.zero_le _⟩) ?_
    rw [pwS_2 c23 c51]
    exact rr_iretW hx hb hr hlocks dX2_parseWheel_61 hP hD hS (rfl)
  have c23 := Int32.not_le.mp c23
  refine lv_aload_n hx hb dX2_parseWheel_26 rfl (lv_at hl 2 rfl) ?_
  refine va_get (D := (dC, dI)) (ci := 2) (v := .int (nI (skq Tp tn u.1))) (C := RX2) (T := TX2) (N := 4) hx hb hts hiX2 hown hK hP 0 rfl rfl 2 (by decide) (hts (.fieldLink RX2 26 "RestRegisters$Tape" "place" "I") (by decide +kernel)) (fun _ h9 => h9) rfl dX2_parseWheel_27 ?_
  refine rr_callR (va_runS (As := [.int (nI (skq Tp tn u.1))]) (rest := []) ⟨hx, hb, hml, hown, hts⟩ (c_X2_faultAt l (skq Tp tn u.1) ) (va_cwS 1 hts gX2_parseWheel_X2_faultAt rfl rfl rfl (by decide +kernel) ⟨Nat.le_of_ble_eq_true rfl, Nat.le_of_ble_eq_true rfl⟩) rr_preT rfl rfl hl.1 rfl (lv_room (Nat.le_of_ble_eq_true rfl)) dX2_parseWheel_30 ⟨Nat.zero_le _, Nat.zero_le _⟩) ?_
  rw [pwS_1 c23]
  exact rr_iretW hx hb hr hlocks dX2_parseWheel_33 hP hD hS (rfl)
set_option maxHeartbeats 4000000 in
set_option maxRecDepth 100000 in
theorem c_X2_parseWheel_t (l : Launch) (dC : Nat → ClassId) (dI : Nat → Nat → Nat) (cI cJ cS : ClassId) (sz : Nat) (aK aV : Nat) (t0 ta q3 qk qw qs : Nat) (tn : Nat) (Tp : Nat → Nat) (sf : Nat → Int32) (u : PSt) (ht : tpOk Tp tn) (hu : pOk tn u) (hu5 : u.2.1 < 6) : Met l yX2_parseWheel wsX2_parseWheel ({ frames := 4, cells := 0, slots := 0, locals := 91 }) (va_Pc [.ref t0, .int (bi true)] (rWS (dC, dI) vwCl [(t0, .inr (2, [.ref ta, .int (nI tn), .int (nI u.1), .ref q3])), (ta, .inl (cI, 40, .inl (nA Tp))), (q3, .inr (3, [.int (nI u.2.1), .int (nI u.2.2.1), .int (nI u.2.2.2.1), .int (nI u.2.2.2.2.1), .ref qk, .ref qw, .ref qs])), (qk, .inl (cI, 6, .inl (nA u.2.2.2.2.2.1))), (qw, .inl (cI, 6, .inl (nA u.2.2.2.2.2.2))), (qs, .inl (cI, 6, .inl sf))] (tyz cI cJ cS) sz aK aV)) (qI ((pwS Tp tn true u).2) (dC, dI) vwCl [(t0, .inr (2, [.ref ta, .int (nI tn), .int (nI ((pwS Tp tn true u).1.1)), .ref q3])), (ta, .inl (cI, 40, .inl (nA Tp))), (q3, .inr (3, [.int (nI ((pwS Tp tn true u).1.2.1)), .int (nI ((pwS Tp tn true u).1.2.2.1)), .int (nI ((pwS Tp tn true u).1.2.2.2.1)), .int (nI ((pwS Tp tn true u).1.2.2.2.2.1)), .ref qk, .ref qw, .ref qs])), (qk, .inl (cI, 6, .inl (nA (pwS Tp tn true u).1.2.2.2.2.2.1))), (qw, .inl (cI, 6, .inl (nA (pwS Tp tn true u).1.2.2.2.2.2.2))), (qs, .inl (cI, 6, .inl sf))] (va_A [(t0, .inr (2, [.ref ta, .int (nI tn), .int (nI u.1), .ref q3])), (ta, .inl (cI, 40, .inl (nA Tp))), (q3, .inr (3, [.int (nI u.2.1), .int (nI u.2.2.1), .int (nI u.2.2.2.1), .int (nI u.2.2.2.2.1), .ref qk, .ref qw, .ref qs])), (qk, .inl (cI, 6, .inl (nA u.2.2.2.2.2.1))), (qw, .inl (cI, 6, .inl (nA u.2.2.2.2.2.2))), (qs, .inl (cI, 6, .inl sf))] sz)) 0 0 (va_A [(t0, .inr (2, [.ref ta, .int (nI tn), .int (nI u.1), .ref q3])), (ta, .inl (cI, 40, .inl (nA Tp))), (q3, .inr (3, [.int (nI u.2.1), .int (nI u.2.2.1), .int (nI u.2.2.2.1), .int (nI u.2.2.2.2.1), .ref qk, .ref qw, .ref qs])), (qk, .inl (cI, 6, .inl (nA u.2.2.2.2.2.1))), (qw, .inl (cI, 6, .inl (nA u.2.2.2.2.2.2))), (qs, .inl (cI, 6, .inl sf))] sz) := by
  refine Met.ofW (cc := cX2_parseWheel) (maxL := 6) (ret := (some .int)) (by decide) rfl ?_
  intro p e s m args below meth c s₁ B hml hv
  obtain ⟨rfl, ⟨hsz, hP, hKK, hD0⟩, hZ⟩ := hv
  have hK := hKK.1
  have hx := B.exec
  have hb := B.bytes
  have hr := B.returns
  have hts := atoms_spec (ws := wsX2_parseWheel) B.pre
  have hown : s.vm.findClass RX2 = some m.cls := findClass_of_methodNamed B.named
  have hlocks := B.notSynchronized
  subst hsz
  have hD := hD0.self (sz := s.heap.size)
  generalize hAe : va_A [(t0, .inr (2, [.ref ta, .int (nI tn), .int (nI u.1), .ref q3])), (ta, .inl (cI, 40, .inl (nA Tp))), (q3, .inr (3, [.int (nI u.2.1), .int (nI u.2.2.1), .int (nI u.2.2.2.1), .int (nI u.2.2.2.2.1), .ref qk, .ref qw, .ref qs])), (qk, .inl (cI, 6, .inl (nA u.2.2.2.2.2.1))), (qw, .inl (cI, 6, .inl (nA u.2.2.2.2.2.2))), (qs, .inl (cI, 6, .inl sf))] s.heap.size = A at hD hZ ⊢
  have hA : ∀ q : Nat, s.heap.size ≤ q → A q := fun q h => by rw [← hAe]; exact Or.inr h
  have hS : va_S A s.heap s.heap [] := va_S.rf
  have hP : va_P (dC, dI) vwCl [(t0, .inr (2, [.ref ta, .int (nI tn), .int (nI u.1), .ref q3])), (ta, .inl (cI, 40, .inl (nA Tp))), (q3, .inr (3, [.int (nI u.2.1), .int (nI u.2.2.1), .int (nI u.2.2.2.1), .int (nI u.2.2.2.2.1), .ref qk, .ref qw, .ref qs])), (qk, .inl (cI, 6, .inl (nA u.2.2.2.2.2.1))), (qw, .inl (cI, 6, .inl (nA u.2.2.2.2.2.2))), (qs, .inl (cI, 6, .inl sf))] s.heap := hP
  have hiX2 : ∀ w ∈ wsX20, w ∈ wsX2_parseWheel := by decide +kernel
  have hl := lv_entry ([.ref t0, .int (bi true)]) (n := 6) (Nat.le_of_ble_eq_true rfl)
  rw [lg_entry_eq]
  generalize (lg_sl ([.ref t0, .int (bi true)]) ++ List.replicate (6 - (lg_sl ([.ref t0, .int (bi true)])).length) Slot.unset).toArray = ls at hl ⊢
  have hl : lv_has ls 6 [(0, .ref t0), (1, .int (bi true))] := hl
  have h40 := ht.1
  have b1 := skq_b (T := Tp) hu.1
  refine lv_aload_n hx hb dX2_parseWheel_0 rfl (lv_at hl 0 rfl) ?_
  refine rw_calli (va_runV (As := []) (rest := []) ⟨hx, hb, hml, hown, hts⟩ (c_X2_ahead l dC dI cI cJ cS _ t0 ta q3 tn u.1 Tp (by first | assumption | omega) (hu.1)) (cwV 0 hts gX2_parseWheel_X2_ahead rfl rfl rfl (by decide +kernel) ⟨Nat.le_of_ble_eq_true rfl, Nat.le_of_ble_eq_true rfl⟩) (rw_preV hKK (hP.sub [0, 1] rfl) (hD.sub [0, 1] (by decide) rfl) rfl rfl) rfl rfl hl.1 rfl (lv_room (Nat.le_of_ble_eq_true rfl)) dX2_parseWheel_1 ⟨Nat.zero_le _, Nat.zero_le _⟩) (wr := [(q3, .inr (3, [.int (nI u.2.1), .int (nI u.2.2.1), .int (nI u.2.2.2.1), .int (nI u.2.2.2.2.1), .ref qk, .ref qw, .ref qs])), (qk, .inl (cI, 6, .inl (nA u.2.2.2.2.2.1))), (qw, .inl (cI, 6, .inl (nA u.2.2.2.2.2.2))), (qs, .inl (cI, 6, .inl sf))]) hP hD hS hA [0, 1] [2, 3, 4, 5] rfl rfl (by decide) (by decide) (fun H locs hP hD hS => ?_)
  have hP : va_P (dC, dI) vwCl [(t0, .inr (2, [.ref ta, .int (nI tn), .int (nI (skq Tp tn u.1)), .ref q3])), (ta, .inl (cI, 40, .inl (nA Tp))), (q3, .inr (3, [.int (nI u.2.1), .int (nI u.2.2.1), .int (nI u.2.2.2.1), .int (nI u.2.2.2.2.1), .ref qk, .ref qw, .ref qs])), (qk, .inl (cI, 6, .inl (nA u.2.2.2.2.2.1))), (qw, .inl (cI, 6, .inl (nA u.2.2.2.2.2.2))), (qs, .inl (cI, 6, .inl sf))] H := hP.sub [4, 5, 0, 1, 2, 3] rfl
  have hD : va_D A [(t0, .inr (2, [.ref ta, .int (nI tn), .int (nI (skq Tp tn u.1)), .ref q3])), (ta, .inl (cI, 40, .inl (nA Tp))), (q3, .inr (3, [.int (nI u.2.1), .int (nI u.2.2.1), .int (nI u.2.2.2.1), .int (nI u.2.2.2.2.1), .ref qk, .ref qw, .ref qs])), (qk, .inl (cI, 6, .inl (nA u.2.2.2.2.2.1))), (qw, .inl (cI, 6, .inl (nA u.2.2.2.2.2.2))), (qs, .inl (cI, 6, .inl sf))] := hD.sub [4, 5, 0, 1, 2, 3] (by decide) rfl
  refine lv_istore_n (lv' := [(2, .int (lkI Tp tn (skq Tp tn u.1))), (0, .ref t0), (1, .int (bi true))]) hx hb dX2_parseWheel_4 rfl hl (by decide) rfl (fun ls hl => ?_)
  refine lv_iload_n hx hb dX2_parseWheel_5 rfl (lv_at hl 0 rfl) ?_
  refine lv_iconst (v := (-1)) hx hb dX2_parseWheel_6 (by decide) ?_
  refine lv_icmp_ne (tgt := 14) hx hb dX2_parseWheel_7 (by decide) (fun c7 => ?_) (fun c7 => ?_)
  · skip
    refine va_ldcS hx hb hown hZ.1 dX2_parseWheel_14 ?_
    refine lv_iload_n hx hb dX2_parseWheel_16 rfl (lv_at hl 0 rfl) ?_
    have hl1 : skq Tp tn u.1 < tn := Decidable.byContradiction (fun z => c7 (lkI_f z))
    have hel : lkI Tp tn (skq Tp tn u.1) = nI (Tp (skq Tp tn u.1)) := lkI_t hl1
    have hch := ht.2 _ hl1
    refine rr_top (y := nI (Tp (skq Tp tn u.1))) hel ?_
    refine lv_i2c hx hb dX2_parseWheel_17 rfl ?_
    refine rr_top (y := nI (Tp (skq Tp tn u.1))) (i2c_small (by omega)) ?_
    refine rr_callR (va_runV (As := [.int (nI (Tp (skq Tp tn u.1)))]) (rest := []) ⟨hx, hb, hml, hown, hts⟩ (c_J0_indexOf_0f7a4 l aK aV (Tp (skq Tp tn u.1)) (by omega)) (cwV 1 hts gX2_parseWheel_J0_indexOf_0f7a4 rfl rfl rfl (by decide +kernel) ⟨Nat.le_of_ble_eq_true rfl, Nat.le_of_ble_eq_true rfl⟩) (rs_preV (hZ.kept hS.2.1)) rfl rfl hl.1 rfl (lv_room (Nat.le_of_ble_eq_true rfl)) dX2_parseWheel_18 ⟨Nat.zero_le _, Nat.zero_le _⟩) ?_
    refine rr_top (y := kindC (lkI Tp tn (skq Tp tn u.1))) (by rw [hel]) ?_
    refine lv_istore_n (lv' := [(3, .int (kindC (lkI Tp tn (skq Tp tn u.1)))), (2, .int (lkI Tp tn (skq Tp tn u.1))), (0, .ref t0), (1, .int (bi true))]) hx hb dX2_parseWheel_21 rfl hl (by decide) rfl (fun ls hl => ?_)
    refine lv_iload_n hx hb dX2_parseWheel_22 rfl (lv_at hl 0 rfl) ?_
    refine lv_if_ge (tgt := 34) hx hb dX2_parseWheel_23 (by decide) (fun c23 => ?_) (fun c23 => ?_)
    · skip
      have c23 := Int32.not_lt.mpr c23
      have hkc := kcN_ok c23
      have hlt := kc_lt c23
      have b2 := skq_b (T := Tp) (show skq Tp tn u.1 + 1 ≤ tn from hlt)
      have b3 := nmV_b ht b2.2
      refine lv_aload_n hx hb dX2_parseWheel_34 rfl (lv_at hl 2 rfl) ?_
      refine lv_dup hx hb dX2_parseWheel_35 rfl ?_
      refine va_get (D := (dC, dI)) (ci := 2) (v := .int (nI (skq Tp tn u.1))) (C := RX2) (T := TX2) (N := 4) hx hb hts hiX2 hown hK hP 0 rfl rfl 2 (by decide) (hts (.fieldLink RX2 26 "RestRegisters$Tape" "place" "I") (by decide +kernel)) (fun _ h9 => h9) rfl dX2_parseWheel_36 ?_
      refine lv_iconst (v := (nI 1)) hx hb dX2_parseWheel_39 (by decide) ?_
      refine rn_iadd hx hb dX2_parseWheel_40 ?_
      refine va_put (D := (dC, dI)) (ci := 2) (v := .int (nI (skq Tp tn u.1 + 1))) (ty := .int) (C := RX2) (T := TX2) (N := 4) hx hb hts hiX2 tyX2 tyX2_ok nmX2 hown hK hP hD hS 0 rfl rfl 2 (by decide) (hts (.fieldLink RX2 26 "RestRegisters$Tape" "place" "I") (by decide +kernel)) (fun _ h9 => h9) rfl (by decide +kernel) rfl rfl (Nat.le_of_ble_eq_true rfl) dX2_parseWheel_41 (fun H locs hP hD hS => ?_)
      have hP : va_P (dC, dI) vwCl [(t0, .inr (2, [.ref ta, .int (nI tn), .int (nI (skq Tp tn u.1 + 1)), .ref q3])), (ta, .inl (cI, 40, .inl (nA Tp))), (q3, .inr (3, [.int (nI u.2.1), .int (nI u.2.2.1), .int (nI u.2.2.2.1), .int (nI u.2.2.2.2.1), .ref qk, .ref qw, .ref qs])), (qk, .inl (cI, 6, .inl (nA u.2.2.2.2.2.1))), (qw, .inl (cI, 6, .inl (nA u.2.2.2.2.2.2))), (qs, .inl (cI, 6, .inl sf))] H := hP
      have hD : va_D A [(t0, .inr (2, [.ref ta, .int (nI tn), .int (nI (skq Tp tn u.1 + 1)), .ref q3])), (ta, .inl (cI, 40, .inl (nA Tp))), (q3, .inr (3, [.int (nI u.2.1), .int (nI u.2.2.1), .int (nI u.2.2.2.1), .int (nI u.2.2.2.2.1), .ref qk, .ref qw, .ref qs])), (qk, .inl (cI, 6, .inl (nA u.2.2.2.2.2.1))), (qw, .inl (cI, 6, .inl (nA u.2.2.2.2.2.2))), (qs, .inl (cI, 6, .inl sf))] := hD
      refine lv_aload_n hx hb dX2_parseWheel_44 rfl (lv_at hl 2 rfl) ?_
      refine rw_calli (va_runV (As := []) (rest := []) ⟨hx, hb, hml, hown, hts⟩ (c_X2_ahead l dC dI cI cJ cS _ t0 ta q3 tn (skq Tp tn u.1 + 1) Tp (by first | assumption | omega) (hlt)) (cwV 0 hts gX2_parseWheel_X2_ahead rfl rfl rfl (by decide +kernel) ⟨Nat.le_of_ble_eq_true rfl, Nat.le_of_ble_eq_true rfl⟩) (rw_preV hKK (hP.sub [0, 1] rfl) (hD.sub [0, 1] (by decide) rfl) rfl rfl) rfl rfl hl.1 rfl (lv_room (Nat.le_of_ble_eq_true rfl)) dX2_parseWheel_45 ⟨Nat.zero_le _, Nat.zero_le _⟩) (wr := [(q3, .inr (3, [.int (nI u.2.1), .int (nI u.2.2.1), .int (nI u.2.2.2.1), .int (nI u.2.2.2.2.1), .ref qk, .ref qw, .ref qs])), (qk, .inl (cI, 6, .inl (nA u.2.2.2.2.2.1))), (qw, .inl (cI, 6, .inl (nA u.2.2.2.2.2.2))), (qs, .inl (cI, 6, .inl sf))]) hP hD hS hA [0, 1] [2, 3, 4, 5] rfl rfl (by decide) (by decide) (fun H locs hP hD hS => ?_)
      have hP : va_P (dC, dI) vwCl [(t0, .inr (2, [.ref ta, .int (nI tn), .int (nI (skq Tp tn (skq Tp tn u.1 + 1))), .ref q3])), (ta, .inl (cI, 40, .inl (nA Tp))), (q3, .inr (3, [.int (nI u.2.1), .int (nI u.2.2.1), .int (nI u.2.2.2.1), .int (nI u.2.2.2.2.1), .ref qk, .ref qw, .ref qs])), (qk, .inl (cI, 6, .inl (nA u.2.2.2.2.2.1))), (qw, .inl (cI, 6, .inl (nA u.2.2.2.2.2.2))), (qs, .inl (cI, 6, .inl sf))] H := hP.sub [4, 5, 0, 1, 2, 3] rfl
      have hD : va_D A [(t0, .inr (2, [.ref ta, .int (nI tn), .int (nI (skq Tp tn (skq Tp tn u.1 + 1))), .ref q3])), (ta, .inl (cI, 40, .inl (nA Tp))), (q3, .inr (3, [.int (nI u.2.1), .int (nI u.2.2.1), .int (nI u.2.2.2.1), .int (nI u.2.2.2.2.1), .ref qk, .ref qw, .ref qs])), (qk, .inl (cI, 6, .inl (nA u.2.2.2.2.2.1))), (qw, .inl (cI, 6, .inl (nA u.2.2.2.2.2.2))), (qs, .inl (cI, 6, .inl sf))] := hD.sub [4, 5, 0, 1, 2, 3] (by decide) rfl
      refine rr_callR (va_runS (As := [.int (lkI Tp tn (skq Tp tn (skq Tp tn u.1 + 1)))]) (rest := []) ⟨hx, hb, hml, hown, hts⟩ (c_X2_isDigit l (lkI Tp tn (skq Tp tn (skq Tp tn u.1 + 1))) ) (va_cwS 1 hts gX2_parseWheel_X2_isDigit rfl rfl rfl (by decide +kernel) ⟨Nat.le_of_ble_eq_true rfl, Nat.le_of_ble_eq_true rfl⟩) rr_preT rfl rfl hl.1 rfl (lv_room (Nat.le_of_ble_eq_true rfl)) dX2_parseWheel_48 ⟨Nat.zero_le _, Nat.zero_le _⟩) ?_
      refine rb_if_ne (tgt := 62) hx hb dX2_parseWheel_51 (by decide) (fun c51 => ?_) (fun c51 => ?_)
      · skip
        refine lv_aload_n hx hb dX2_parseWheel_62 rfl (lv_at hl 2 rfl) ?_
        refine va_get (D := (dC, dI)) (ci := 2) (v := .int (nI (skq Tp tn (skq Tp tn u.1 + 1)))) (C := RX2) (T := TX2) (N := 4) hx hb hts hiX2 hown hK hP 0 rfl rfl 2 (by decide) (hts (.fieldLink RX2 26 "RestRegisters$Tape" "place" "I") (by decide +kernel)) (fun _ h9 => h9) rfl dX2_parseWheel_63 ?_
        refine lv_istore (lv' := [(4, .int (nI (skq Tp tn (skq Tp tn u.1 + 1)))), (3, .int (kindC (lkI Tp tn (skq Tp tn u.1)))), (2, .int (lkI Tp tn (skq Tp tn u.1))), (0, .ref t0), (1, .int (bi true))]) hx hb dX2_parseWheel_66 hl (by decide) rfl (fun ls hl => ?_)
        refine lv_aload_n hx hb dX2_parseWheel_68 rfl (lv_at hl 3 rfl) ?_
        refine rw_calli (va_runV (As := []) (rest := []) ⟨hx, hb, hml, hown, hts⟩ (c_X2_parseNumber l dC dI cI cJ cS _ t0 ta q3 tn (skq Tp tn (skq Tp tn u.1 + 1)) Tp (by first | assumption | omega) (b2.2)) (cwV 0 hts gX2_parseWheel_X2_parseNumber rfl rfl rfl (by decide +kernel) ⟨Nat.le_of_ble_eq_true rfl, Nat.le_of_ble_eq_true rfl⟩) (rw_preV hKK (hP.sub [0, 1] rfl) (hD.sub [0, 1] (by decide) rfl) rfl rfl) rfl rfl hl.1 rfl (lv_room (Nat.le_of_ble_eq_true rfl)) dX2_parseWheel_69 ⟨Nat.zero_le _, Nat.zero_le _⟩) (wr := [(q3, .inr (3, [.int (nI u.2.1), .int (nI u.2.2.1), .int (nI u.2.2.2.1), .int (nI u.2.2.2.2.1), .ref qk, .ref qw, .ref qs])), (qk, .inl (cI, 6, .inl (nA u.2.2.2.2.2.1))), (qw, .inl (cI, 6, .inl (nA u.2.2.2.2.2.2))), (qs, .inl (cI, 6, .inl sf))]) hP hD hS hA [0, 1] [2, 3, 4, 5] rfl rfl (by decide) (by decide) (fun H locs hP hD hS => ?_)
        have hP : va_P (dC, dI) vwCl [(t0, .inr (2, [.ref ta, .int (nI tn), .int (nI (nmP Tp tn (skq Tp tn (skq Tp tn u.1 + 1)))), .ref q3])), (ta, .inl (cI, 40, .inl (nA Tp))), (q3, .inr (3, [.int (nI u.2.1), .int (nI u.2.2.1), .int (nI u.2.2.2.1), .int (nI u.2.2.2.2.1), .ref qk, .ref qw, .ref qs])), (qk, .inl (cI, 6, .inl (nA u.2.2.2.2.2.1))), (qw, .inl (cI, 6, .inl (nA u.2.2.2.2.2.2))), (qs, .inl (cI, 6, .inl sf))] H := hP.sub [4, 5, 0, 1, 2, 3] rfl
        have hD : va_D A [(t0, .inr (2, [.ref ta, .int (nI tn), .int (nI (nmP Tp tn (skq Tp tn (skq Tp tn u.1 + 1)))), .ref q3])), (ta, .inl (cI, 40, .inl (nA Tp))), (q3, .inr (3, [.int (nI u.2.1), .int (nI u.2.2.1), .int (nI u.2.2.2.1), .int (nI u.2.2.2.2.1), .ref qk, .ref qw, .ref qs])), (qk, .inl (cI, 6, .inl (nA u.2.2.2.2.2.1))), (qw, .inl (cI, 6, .inl (nA u.2.2.2.2.2.2))), (qs, .inl (cI, 6, .inl sf))] := hD.sub [4, 5, 0, 1, 2, 3] (by decide) rfl
        refine lv_istore (lv' := [(5, .int (nI (nmV Tp tn (skq Tp tn (skq Tp tn u.1 + 1))))), (4, .int (nI (skq Tp tn (skq Tp tn u.1 + 1)))), (3, .int (kindC (lkI Tp tn (skq Tp tn u.1)))), (2, .int (lkI Tp tn (skq Tp tn u.1))), (0, .ref t0), (1, .int (bi true))]) hx hb dX2_parseWheel_72 hl (by decide) rfl (fun ls hl => ?_)
        refine lv_aload_n hx hb dX2_parseWheel_74 rfl (lv_at hl 4 rfl) ?_
        refine va_get (D := (dC, dI)) (ci := 2) (v := .ref q3) (C := RX2) (T := TX2) (N := 4) hx hb hts hiX2 hown hK hP 0 rfl rfl 3 (by decide) (hts (.fieldLink RX2 18 "RestRegisters$Tape" "draft" "LRestRegisters$Wheels;") (by decide +kernel)) (fun _ h9 => h9) rfl dX2_parseWheel_75 ?_
        refine lv_iload hx hb dX2_parseWheel_78 (lv_at hl 0 rfl) ?_
        refine rr_callR (va_runV (As := [.int (nI (nmV Tp tn (skq Tp tn (skq Tp tn u.1 + 1))))]) (rest := []) ⟨hx, hb, hml, hown, hts⟩ (c_X3_mayHave l dC dI cI cJ cS q3 qk qw qs u.2.1 u.2.2.1 u.2.2.2.1 u.2.2.2.2.1 (nA u.2.2.2.2.2.1) (nA u.2.2.2.2.2.2) sf u.2.2.2.2.2.1 u.2.2.2.2.2.2 u.2.2.2.2.2.1 (nmV Tp tn (skq Tp tn (skq Tp tn u.1 + 1))) (hu.2.1) (fun _ _ => rfl) (by omega)) (cwV 1 hts gX2_parseWheel_X3_mayHave rfl rfl rfl (by decide +kernel) ⟨Nat.le_of_ble_eq_true rfl, Nat.le_of_ble_eq_true rfl⟩) (rr_preV hKK (hP.sub [2, 3, 4, 5] rfl) rfl rfl) rfl rfl hl.1 rfl (lv_room (Nat.le_of_ble_eq_true rfl)) dX2_parseWheel_80 ⟨Nat.zero_le _, Nat.zero_le _⟩) ?_
        refine rb_if_ne (tgt := 92) hx hb dX2_parseWheel_83 (by decide) (fun c83 => ?_) (fun c83 => ?_)
        · skip
          refine lv_aload_n hx hb dX2_parseWheel_92 rfl (lv_at hl 4 rfl) ?_
          refine va_get (D := (dC, dI)) (ci := 2) (v := .ref q3) (C := RX2) (T := TX2) (N := 4) hx hb hts hiX2 hown hK hP 0 rfl rfl 3 (by decide) (hts (.fieldLink RX2 18 "RestRegisters$Tape" "draft" "LRestRegisters$Wheels;") (by decide +kernel)) (fun _ h9 => h9) rfl dX2_parseWheel_93 ?_
          refine lv_iload_n hx hb dX2_parseWheel_96 rfl (lv_at hl 2 rfl) ?_
          refine rr_top (y := nI (kcN (lkI Tp tn (skq Tp tn u.1)))) hkc.1 ?_
          refine lv_iload hx hb dX2_parseWheel_97 (lv_at hl 0 rfl) ?_
          refine lv_iload_n hx hb dX2_parseWheel_99 rfl (lv_at hl 5 rfl) ?_
          refine rw_callv (va_runV (As := [.int (nI (kcN (lkI Tp tn (skq Tp tn u.1)))), .int (nI (nmV Tp tn (skq Tp tn (skq Tp tn u.1 + 1)))), .int (bi true)]) (rest := []) ⟨hx, hb, hml, hown, hts⟩ (c_X3_append_t l dC dI cI cJ cS _ q3 qk qw qs u.2.1 u.2.2.1 u.2.2.2.1 u.2.2.2.2.1 (nA u.2.2.2.2.2.1) (nA u.2.2.2.2.2.2) sf (kcN (lkI Tp tn (skq Tp tn u.1))) (nmV Tp tn (skq Tp tn (skq Tp tn u.1 + 1))) (by first | assumption | omega)) (cwV 3 hts gX2_parseWheel_X3_append rfl rfl rfl (by decide +kernel) ⟨Nat.le_of_ble_eq_true rfl, Nat.le_of_ble_eq_true rfl⟩) (rw_preV hKK (hP.sub [2, 3, 4, 5] rfl) (hD.sub [2, 3, 4, 5] (by decide) rfl) rfl rfl) rfl rfl hl.1 rfl (lv_room (Nat.le_of_ble_eq_true rfl)) dX2_parseWheel_100 ⟨Nat.zero_le _, Nat.zero_le _⟩) (wr := [(t0, .inr (2, [.ref ta, .int (nI tn), .int (nI (nmP Tp tn (skq Tp tn (skq Tp tn u.1 + 1)))), .ref q3])), (ta, .inl (cI, 40, .inl (nA Tp)))]) hP hD hS hA [2, 3, 4, 5] [0, 1] rfl rfl (by decide) (by decide) (fun H locs hP hD hS => ?_)
          have hP : va_P (dC, dI) vwCl [(t0, .inr (2, [.ref ta, .int (nI tn), .int (nI (nmP Tp tn (skq Tp tn (skq Tp tn u.1 + 1)))), .ref q3])), (ta, .inl (cI, 40, .inl (nA Tp))), (q3, .inr (3, [.int (nI (u.2.1 + 1)), .int (nI u.2.2.1), .int (nI u.2.2.2.1), .int (nI (u.2.2.2.2.1 * (nmV Tp tn (skq Tp tn (skq Tp tn u.1 + 1))))), .ref qk, .ref qw, .ref qs])), (qk, .inl (cI, 6, .inl (upd (nA u.2.2.2.2.2.1) u.2.1 (nI (kcN (lkI Tp tn (skq Tp tn u.1))))))), (qw, .inl (cI, 6, .inl (upd (nA u.2.2.2.2.2.2) u.2.1 (nI (nmV Tp tn (skq Tp tn (skq Tp tn u.1 + 1))))))), (qs, .inl (cI, 6, .inl sf))] H := hP.sub [0, 1, 2, 3, 4, 5] rfl
          have hD : va_D A [(t0, .inr (2, [.ref ta, .int (nI tn), .int (nI (nmP Tp tn (skq Tp tn (skq Tp tn u.1 + 1)))), .ref q3])), (ta, .inl (cI, 40, .inl (nA Tp))), (q3, .inr (3, [.int (nI (u.2.1 + 1)), .int (nI u.2.2.1), .int (nI u.2.2.2.1), .int (nI (u.2.2.2.2.1 * (nmV Tp tn (skq Tp tn (skq Tp tn u.1 + 1))))), .ref qk, .ref qw, .ref qs])), (qk, .inl (cI, 6, .inl (upd (nA u.2.2.2.2.2.1) u.2.1 (nI (kcN (lkI Tp tn (skq Tp tn u.1))))))), (qw, .inl (cI, 6, .inl (upd (nA u.2.2.2.2.2.2) u.2.1 (nI (nmV Tp tn (skq Tp tn (skq Tp tn u.1 + 1))))))), (qs, .inl (cI, 6, .inl sf))] := hD.sub [0, 1, 2, 3, 4, 5] (by decide) rfl
          have ec : upd (nA u.2.2.2.2.2.1) u.2.1 (nI (kcN (lkI Tp tn (skq Tp tn u.1)))) = nA (uN u.2.2.2.2.2.1 u.2.1 (kcN (lkI Tp tn (skq Tp tn u.1)))) := nA_upd _ _ _
          rw [ec] at hP hD
          have hP : va_P (dC, dI) vwCl [(t0, .inr (2, [.ref ta, .int (nI tn), .int (nI (nmP Tp tn (skq Tp tn (skq Tp tn u.1 + 1)))), .ref q3])), (ta, .inl (cI, 40, .inl (nA Tp))), (q3, .inr (3, [.int (nI (u.2.1 + 1)), .int (nI u.2.2.1), .int (nI u.2.2.2.1), .int (nI (u.2.2.2.2.1 * (nmV Tp tn (skq Tp tn (skq Tp tn u.1 + 1))))), .ref qk, .ref qw, .ref qs])), (qk, .inl (cI, 6, .inl (nA (uN u.2.2.2.2.2.1 u.2.1 (kcN (lkI Tp tn (skq Tp tn u.1))))))), (qw, .inl (cI, 6, .inl (upd (nA u.2.2.2.2.2.2) u.2.1 (nI (nmV Tp tn (skq Tp tn (skq Tp tn u.1 + 1))))))), (qs, .inl (cI, 6, .inl sf))] H := hP
          have hD : va_D A [(t0, .inr (2, [.ref ta, .int (nI tn), .int (nI (nmP Tp tn (skq Tp tn (skq Tp tn u.1 + 1)))), .ref q3])), (ta, .inl (cI, 40, .inl (nA Tp))), (q3, .inr (3, [.int (nI (u.2.1 + 1)), .int (nI u.2.2.1), .int (nI u.2.2.2.1), .int (nI (u.2.2.2.2.1 * (nmV Tp tn (skq Tp tn (skq Tp tn u.1 + 1))))), .ref qk, .ref qw, .ref qs])), (qk, .inl (cI, 6, .inl (nA (uN u.2.2.2.2.2.1 u.2.1 (kcN (lkI Tp tn (skq Tp tn u.1))))))), (qw, .inl (cI, 6, .inl (upd (nA u.2.2.2.2.2.2) u.2.1 (nI (nmV Tp tn (skq Tp tn (skq Tp tn u.1 + 1))))))), (qs, .inl (cI, 6, .inl sf))] := hD
          have ec : upd (nA u.2.2.2.2.2.2) u.2.1 (nI (nmV Tp tn (skq Tp tn (skq Tp tn u.1 + 1)))) = nA (uN u.2.2.2.2.2.2 u.2.1 (nmV Tp tn (skq Tp tn (skq Tp tn u.1 + 1)))) := nA_upd _ _ _
          rw [ec] at hP hD
          have hP : va_P (dC, dI) vwCl [(t0, .inr (2, [.ref ta, .int (nI tn), .int (nI (nmP Tp tn (skq Tp tn (skq Tp tn u.1 + 1)))), .ref q3])), (ta, .inl (cI, 40, .inl (nA Tp))), (q3, .inr (3, [.int (nI (u.2.1 + 1)), .int (nI u.2.2.1), .int (nI u.2.2.2.1), .int (nI (u.2.2.2.2.1 * (nmV Tp tn (skq Tp tn (skq Tp tn u.1 + 1))))), .ref qk, .ref qw, .ref qs])), (qk, .inl (cI, 6, .inl (nA (uN u.2.2.2.2.2.1 u.2.1 (kcN (lkI Tp tn (skq Tp tn u.1))))))), (qw, .inl (cI, 6, .inl (nA (uN u.2.2.2.2.2.2 u.2.1 (nmV Tp tn (skq Tp tn (skq Tp tn u.1 + 1))))))), (qs, .inl (cI, 6, .inl sf))] H := hP
          have hD : va_D A [(t0, .inr (2, [.ref ta, .int (nI tn), .int (nI (nmP Tp tn (skq Tp tn (skq Tp tn u.1 + 1)))), .ref q3])), (ta, .inl (cI, 40, .inl (nA Tp))), (q3, .inr (3, [.int (nI (u.2.1 + 1)), .int (nI u.2.2.1), .int (nI u.2.2.2.1), .int (nI (u.2.2.2.2.1 * (nmV Tp tn (skq Tp tn (skq Tp tn u.1 + 1))))), .ref qk, .ref qw, .ref qs])), (qk, .inl (cI, 6, .inl (nA (uN u.2.2.2.2.2.1 u.2.1 (kcN (lkI Tp tn (skq Tp tn u.1))))))), (qw, .inl (cI, 6, .inl (nA (uN u.2.2.2.2.2.2 u.2.1 (nmV Tp tn (skq Tp tn (skq Tp tn u.1 + 1))))))), (qs, .inl (cI, 6, .inl sf))] := hD
          refine lv_iconst (v := (nI 0)) hx hb dX2_parseWheel_103 (by decide) ?_
          rw [pwS_4 c23 c51 c83]
          exact rr_iretW hx hb hr hlocks dX2_parseWheel_104 hP hD hS (rfl)
        refine lv_iload hx hb dX2_parseWheel_86 (lv_at hl 1 rfl) ?_
        refine rr_callR (va_runS (As := [.int (nI (skq Tp tn (skq Tp tn u.1 + 1)))]) (rest := []) ⟨hx, hb, hml, hown, hts⟩ (c_X2_faultAt l (skq Tp tn (skq Tp tn u.1 + 1)) ) (va_cwS 1 hts gX2_parseWheel_X2_faultAt rfl rfl rfl (by decide +kernel) ⟨Nat.le_of_ble_eq_true rfl, Nat.le_of_ble_eq_true rfl⟩) rr_preT rfl rfl hl.1 rfl (lv_room (Nat.le_of_ble_eq_true rfl)) dX2_parseWheel_88 ⟨Nat.zero_le _, Nat.zero_le _⟩) ?_
        rw [pwS_3 c23 c51 c83]
        exact rr_iretW hx hb hr hlocks dX2_parseWheel_91 hP hD hS (rfl)
      refine lv_aload_n hx hb dX2_parseWheel_54 rfl (lv_at hl 2 rfl) ?_
      refine va_get (D := (dC, dI)) (ci := 2) (v := .int (nI (skq Tp tn (skq Tp tn u.1 + 1)))) (C := RX2) (T := TX2) (N := 4) hx hb hts hiX2 hown hK hP 0 rfl rfl 2 (by decide) (hts (.fieldLink RX2 26 "RestRegisters$Tape" "place" "I") (by decide +kernel)) (fun _ h9 => h9) rfl dX2_parseWheel_55 ?_
      refine rr_callR (va_runS (As := [.int (nI (skq Tp tn (skq Tp tn u.1 + 1)))]) (rest := []) ⟨hx, hb, hml, hown, hts⟩ (c_X2_faultAt l (skq Tp tn (skq Tp tn u.1 + 1)) ) (va_cwS 1 hts gX2_parseWheel_X2_faultAt rfl rfl rfl (by decide +kernel) ⟨Nat.le_of_ble_eq_true rfl, Nat.le_of_ble_eq_true rfl⟩) rr_preT rfl rfl hl.1 rfl (lv_room (Nat.le_of_ble_eq_true rfl)) dX2_parseWheel_58 ⟨Nat.zero_le _, Nat.zero_le _⟩) ?_
      rw [pwS_2 c23 c51]
      exact rr_iretW hx hb hr hlocks dX2_parseWheel_61 hP hD hS (rfl)
    have c23 := Int32.not_le.mp c23
    refine lv_aload_n hx hb dX2_parseWheel_26 rfl (lv_at hl 2 rfl) ?_
    refine va_get (D := (dC, dI)) (ci := 2) (v := .int (nI (skq Tp tn u.1))) (C := RX2) (T := TX2) (N := 4) hx hb hts hiX2 hown hK hP 0 rfl rfl 2 (by decide) (hts (.fieldLink RX2 26 "RestRegisters$Tape" "place" "I") (by decide +kernel)) (fun _ h9 => h9) rfl dX2_parseWheel_27 ?_
    refine rr_callR (va_runS (As := [.int (nI (skq Tp tn u.1))]) (rest := []) ⟨hx, hb, hml, hown, hts⟩ (c_X2_faultAt l (skq Tp tn u.1) ) (va_cwS 1 hts gX2_parseWheel_X2_faultAt rfl rfl rfl (by decide +kernel) ⟨Nat.le_of_ble_eq_true rfl, Nat.le_of_ble_eq_true rfl⟩) rr_preT rfl rfl hl.1 rfl (lv_room (Nat.le_of_ble_eq_true rfl)) dX2_parseWheel_30 ⟨Nat.zero_le _, Nat.zero_le _⟩) ?_
    rw [pwS_1 c23]
    exact rr_iretW hx hb hr hlocks dX2_parseWheel_33 hP hD hS (rfl)
  refine lv_iconst (v := (-1)) hx hb dX2_parseWheel_10 (by decide) ?_
  refine lv_goto (tgt := 21) hx hb dX2_parseWheel_11 (by decide) ?_
  refine rr_top (y := kindC (lkI Tp tn (skq Tp tn u.1))) (by rw [c7]; decide) ?_
  refine lv_istore_n (lv' := [(3, .int (kindC (lkI Tp tn (skq Tp tn u.1)))), (2, .int (lkI Tp tn (skq Tp tn u.1))), (0, .ref t0), (1, .int (bi true))]) hx hb dX2_parseWheel_21 rfl hl (by decide) rfl (fun ls hl => ?_)
  refine lv_iload_n hx hb dX2_parseWheel_22 rfl (lv_at hl 0 rfl) ?_
  refine lv_if_ge (tgt := 34) hx hb dX2_parseWheel_23 (by decide) (fun c23 => ?_) (fun c23 => ?_)
  · skip
    have c23 := Int32.not_lt.mpr c23
    have hkc := kcN_ok c23
    have hlt := kc_lt c23
    have b2 := skq_b (T := Tp) (show skq Tp tn u.1 + 1 ≤ tn from hlt)
    have b3 := nmV_b ht b2.2
    refine lv_aload_n hx hb dX2_parseWheel_34 rfl (lv_at hl 2 rfl) ?_
    refine lv_dup hx hb dX2_parseWheel_35 rfl ?_
    refine va_get (D := (dC, dI)) (ci := 2) (v := .int (nI (skq Tp tn u.1))) (C := RX2) (T := TX2) (N := 4) hx hb hts hiX2 hown hK hP 0 rfl rfl 2 (by decide) (hts (.fieldLink RX2 26 "RestRegisters$Tape" "place" "I") (by decide +kernel)) (fun _ h9 => h9) rfl dX2_parseWheel_36 ?_
    refine lv_iconst (v := (nI 1)) hx hb dX2_parseWheel_39 (by decide) ?_
    refine rn_iadd hx hb dX2_parseWheel_40 ?_
    refine va_put (D := (dC, dI)) (ci := 2) (v := .int (nI (skq Tp tn u.1 + 1))) (ty := .int) (C := RX2) (T := TX2) (N := 4) hx hb hts hiX2 tyX2 tyX2_ok nmX2 hown hK hP hD hS 0 rfl rfl 2 (by decide) (hts (.fieldLink RX2 26 "RestRegisters$Tape" "place" "I") (by decide +kernel)) (fun _ h9 => h9) rfl (by decide +kernel) rfl rfl (Nat.le_of_ble_eq_true rfl) dX2_parseWheel_41 (fun H locs hP hD hS => ?_)
    have hP : va_P (dC, dI) vwCl [(t0, .inr (2, [.ref ta, .int (nI tn), .int (nI (skq Tp tn u.1 + 1)), .ref q3])), (ta, .inl (cI, 40, .inl (nA Tp))), (q3, .inr (3, [.int (nI u.2.1), .int (nI u.2.2.1), .int (nI u.2.2.2.1), .int (nI u.2.2.2.2.1), .ref qk, .ref qw, .ref qs])), (qk, .inl (cI, 6, .inl (nA u.2.2.2.2.2.1))), (qw, .inl (cI, 6, .inl (nA u.2.2.2.2.2.2))), (qs, .inl (cI, 6, .inl sf))] H := hP
    have hD : va_D A [(t0, .inr (2, [.ref ta, .int (nI tn), .int (nI (skq Tp tn u.1 + 1)), .ref q3])), (ta, .inl (cI, 40, .inl (nA Tp))), (q3, .inr (3, [.int (nI u.2.1), .int (nI u.2.2.1), .int (nI u.2.2.2.1), .int (nI u.2.2.2.2.1), .ref qk, .ref qw, .ref qs])), (qk, .inl (cI, 6, .inl (nA u.2.2.2.2.2.1))), (qw, .inl (cI, 6, .inl (nA u.2.2.2.2.2.2))), (qs, .inl (cI, 6, .inl sf))] := hD
    refine lv_aload_n hx hb dX2_parseWheel_44 rfl (lv_at hl 2 rfl) ?_
    refine rw_calli (va_runV (As := []) (rest := []) ⟨hx, hb, hml, hown, hts⟩ (c_X2_ahead l dC dI cI cJ cS _ t0 ta q3 tn (skq Tp tn u.1 + 1) Tp (by first | assumption | omega) (hlt)) (cwV 0 hts gX2_parseWheel_X2_ahead rfl rfl rfl (by decide +kernel) ⟨Nat.le_of_ble_eq_true rfl, Nat.le_of_ble_eq_true rfl⟩) (rw_preV hKK (hP.sub [0, 1] rfl) (hD.sub [0, 1] (by decide) rfl) rfl rfl) rfl rfl hl.1 rfl (lv_room (Nat.le_of_ble_eq_true rfl)) dX2_parseWheel_45 ⟨Nat.zero_le _, Nat.zero_le _⟩) (wr := [(q3, .inr (3, [.int (nI u.2.1), .int (nI u.2.2.1), .int (nI u.2.2.2.1), .int (nI u.2.2.2.2.1), .ref qk, .ref qw, .ref qs])), (qk, .inl (cI, 6, .inl (nA u.2.2.2.2.2.1))), (qw, .inl (cI, 6, .inl (nA u.2.2.2.2.2.2))), (qs, .inl (cI, 6, .inl sf))]) hP hD hS hA [0, 1] [2, 3, 4, 5] rfl rfl (by decide) (by decide) (fun H locs hP hD hS => ?_)
    have hP : va_P (dC, dI) vwCl [(t0, .inr (2, [.ref ta, .int (nI tn), .int (nI (skq Tp tn (skq Tp tn u.1 + 1))), .ref q3])), (ta, .inl (cI, 40, .inl (nA Tp))), (q3, .inr (3, [.int (nI u.2.1), .int (nI u.2.2.1), .int (nI u.2.2.2.1), .int (nI u.2.2.2.2.1), .ref qk, .ref qw, .ref qs])), (qk, .inl (cI, 6, .inl (nA u.2.2.2.2.2.1))), (qw, .inl (cI, 6, .inl (nA u.2.2.2.2.2.2))), (qs, .inl (cI, 6, .inl sf))] H := hP.sub [4, 5, 0, 1, 2, 3] rfl
    have hD : va_D A [(t0, .inr (2, [.ref ta, .int (nI tn), .int (nI (skq Tp tn (skq Tp tn u.1 + 1))), .ref q3])), (ta, .inl (cI, 40, .inl (nA Tp))), (q3, .inr (3, [.int (nI u.2.1), .int (nI u.2.2.1), .int (nI u.2.2.2.1), .int (nI u.2.2.2.2.1), .ref qk, .ref qw, .ref qs])), (qk, .inl (cI, 6, .inl (nA u.2.2.2.2.2.1))), (qw, .inl (cI, 6, .inl (nA u.2.2.2.2.2.2))), (qs, .inl (cI, 6, .inl sf))] := hD.sub [4, 5, 0, 1, 2, 3] (by decide) rfl
    refine rr_callR (va_runS (As := [.int (lkI Tp tn (skq Tp tn (skq Tp tn u.1 + 1)))]) (rest := []) ⟨hx, hb, hml, hown, hts⟩ (c_X2_isDigit l (lkI Tp tn (skq Tp tn (skq Tp tn u.1 + 1))) ) (va_cwS 1 hts gX2_parseWheel_X2_isDigit rfl rfl rfl (by decide +kernel) ⟨Nat.le_of_ble_eq_true rfl, Nat.le_of_ble_eq_true rfl⟩) rr_preT rfl rfl hl.1 rfl (lv_room (Nat.le_of_ble_eq_true rfl)) dX2_parseWheel_48 ⟨Nat.zero_le _, Nat.zero_le _⟩) ?_
    refine rb_if_ne (tgt := 62) hx hb dX2_parseWheel_51 (by decide) (fun c51 => ?_) (fun c51 => ?_)
    · skip
      refine lv_aload_n hx hb dX2_parseWheel_62 rfl (lv_at hl 2 rfl) ?_
      refine va_get (D := (dC, dI)) (ci := 2) (v := .int (nI (skq Tp tn (skq Tp tn u.1 + 1)))) (C := RX2) (T := TX2) (N := 4) hx hb hts hiX2 hown hK hP 0 rfl rfl 2 (by decide) (hts (.fieldLink RX2 26 "RestRegisters$Tape" "place" "I") (by decide +kernel)) (fun _ h9 => h9) rfl dX2_parseWheel_63 ?_
      refine lv_istore (lv' := [(4, .int (nI (skq Tp tn (skq Tp tn u.1 + 1)))), (3, .int (kindC (lkI Tp tn (skq Tp tn u.1)))), (2, .int (lkI Tp tn (skq Tp tn u.1))), (0, .ref t0), (1, .int (bi true))]) hx hb dX2_parseWheel_66 hl (by decide) rfl (fun ls hl => ?_)
      refine lv_aload_n hx hb dX2_parseWheel_68 rfl (lv_at hl 3 rfl) ?_
      refine rw_calli (va_runV (As := []) (rest := []) ⟨hx, hb, hml, hown, hts⟩ (c_X2_parseNumber l dC dI cI cJ cS _ t0 ta q3 tn (skq Tp tn (skq Tp tn u.1 + 1)) Tp (by first | assumption | omega) (b2.2)) (cwV 0 hts gX2_parseWheel_X2_parseNumber rfl rfl rfl (by decide +kernel) ⟨Nat.le_of_ble_eq_true rfl, Nat.le_of_ble_eq_true rfl⟩) (rw_preV hKK (hP.sub [0, 1] rfl) (hD.sub [0, 1] (by decide) rfl) rfl rfl) rfl rfl hl.1 rfl (lv_room (Nat.le_of_ble_eq_true rfl)) dX2_parseWheel_69 ⟨Nat.zero_le _, Nat.zero_le _⟩) (wr := [(q3, .inr (3, [.int (nI u.2.1), .int (nI u.2.2.1), .int (nI u.2.2.2.1), .int (nI u.2.2.2.2.1), .ref qk, .ref qw, .ref qs])), (qk, .inl (cI, 6, .inl (nA u.2.2.2.2.2.1))), (qw, .inl (cI, 6, .inl (nA u.2.2.2.2.2.2))), (qs, .inl (cI, 6, .inl sf))]) hP hD hS hA [0, 1] [2, 3, 4, 5] rfl rfl (by decide) (by decide) (fun H locs hP hD hS => ?_)
      have hP : va_P (dC, dI) vwCl [(t0, .inr (2, [.ref ta, .int (nI tn), .int (nI (nmP Tp tn (skq Tp tn (skq Tp tn u.1 + 1)))), .ref q3])), (ta, .inl (cI, 40, .inl (nA Tp))), (q3, .inr (3, [.int (nI u.2.1), .int (nI u.2.2.1), .int (nI u.2.2.2.1), .int (nI u.2.2.2.2.1), .ref qk, .ref qw, .ref qs])), (qk, .inl (cI, 6, .inl (nA u.2.2.2.2.2.1))), (qw, .inl (cI, 6, .inl (nA u.2.2.2.2.2.2))), (qs, .inl (cI, 6, .inl sf))] H := hP.sub [4, 5, 0, 1, 2, 3] rfl
      have hD : va_D A [(t0, .inr (2, [.ref ta, .int (nI tn), .int (nI (nmP Tp tn (skq Tp tn (skq Tp tn u.1 + 1)))), .ref q3])), (ta, .inl (cI, 40, .inl (nA Tp))), (q3, .inr (3, [.int (nI u.2.1), .int (nI u.2.2.1), .int (nI u.2.2.2.1), .int (nI u.2.2.2.2.1), .ref qk, .ref qw, .ref qs])), (qk, .inl (cI, 6, .inl (nA u.2.2.2.2.2.1))), (qw, .inl (cI, 6, .inl (nA u.2.2.2.2.2.2))), (qs, .inl (cI, 6, .inl sf))] := hD.sub [4, 5, 0, 1, 2, 3] (by decide) rfl
      refine lv_istore (lv' := [(5, .int (nI (nmV Tp tn (skq Tp tn (skq Tp tn u.1 + 1))))), (4, .int (nI (skq Tp tn (skq Tp tn u.1 + 1)))), (3, .int (kindC (lkI Tp tn (skq Tp tn u.1)))), (2, .int (lkI Tp tn (skq Tp tn u.1))), (0, .ref t0), (1, .int (bi true))]) hx hb dX2_parseWheel_72 hl (by decide) rfl (fun ls hl => ?_)
      refine lv_aload_n hx hb dX2_parseWheel_74 rfl (lv_at hl 4 rfl) ?_
      refine va_get (D := (dC, dI)) (ci := 2) (v := .ref q3) (C := RX2) (T := TX2) (N := 4) hx hb hts hiX2 hown hK hP 0 rfl rfl 3 (by decide) (hts (.fieldLink RX2 18 "RestRegisters$Tape" "draft" "LRestRegisters$Wheels;") (by decide +kernel)) (fun _ h9 => h9) rfl dX2_parseWheel_75 ?_
      refine lv_iload hx hb dX2_parseWheel_78 (lv_at hl 0 rfl) ?_
      refine rr_callR (va_runV (As := [.int (nI (nmV Tp tn (skq Tp tn (skq Tp tn u.1 + 1))))]) (rest := []) ⟨hx, hb, hml, hown, hts⟩ (c_X3_mayHave l dC dI cI cJ cS q3 qk qw qs u.2.1 u.2.2.1 u.2.2.2.1 u.2.2.2.2.1 (nA u.2.2.2.2.2.1) (nA u.2.2.2.2.2.2) sf u.2.2.2.2.2.1 u.2.2.2.2.2.2 u.2.2.2.2.2.1 (nmV Tp tn (skq Tp tn (skq Tp tn u.1 + 1))) (hu.2.1) (fun _ _ => rfl) (by omega)) (cwV 1 hts gX2_parseWheel_X3_mayHave rfl rfl rfl (by decide +kernel) ⟨Nat.le_of_ble_eq_true rfl, Nat.le_of_ble_eq_true rfl⟩) (rr_preV hKK (hP.sub [2, 3, 4, 5] rfl) rfl rfl) rfl rfl hl.1 rfl (lv_room (Nat.le_of_ble_eq_true rfl)) dX2_parseWheel_80 ⟨Nat.zero_le _, Nat.zero_le _⟩) ?_
      refine rb_if_ne (tgt := 92) hx hb dX2_parseWheel_83 (by decide) (fun c83 => ?_) (fun c83 => ?_)
      · skip
        refine lv_aload_n hx hb dX2_parseWheel_92 rfl (lv_at hl 4 rfl) ?_
        refine va_get (D := (dC, dI)) (ci := 2) (v := .ref q3) (C := RX2) (T := TX2) (N := 4) hx hb hts hiX2 hown hK hP 0 rfl rfl 3 (by decide) (hts (.fieldLink RX2 18 "RestRegisters$Tape" "draft" "LRestRegisters$Wheels;") (by decide +kernel)) (fun _ h9 => h9) rfl dX2_parseWheel_93 ?_
        refine lv_iload_n hx hb dX2_parseWheel_96 rfl (lv_at hl 2 rfl) ?_
        refine rr_top (y := nI (kcN (lkI Tp tn (skq Tp tn u.1)))) hkc.1 ?_
        refine lv_iload hx hb dX2_parseWheel_97 (lv_at hl 0 rfl) ?_
        refine lv_iload_n hx hb dX2_parseWheel_99 rfl (lv_at hl 5 rfl) ?_
        refine rw_callv (va_runV (As := [.int (nI (kcN (lkI Tp tn (skq Tp tn u.1)))), .int (nI (nmV Tp tn (skq Tp tn (skq Tp tn u.1 + 1)))), .int (bi true)]) (rest := []) ⟨hx, hb, hml, hown, hts⟩ (c_X3_append_t l dC dI cI cJ cS _ q3 qk qw qs u.2.1 u.2.2.1 u.2.2.2.1 u.2.2.2.2.1 (nA u.2.2.2.2.2.1) (nA u.2.2.2.2.2.2) sf (kcN (lkI Tp tn (skq Tp tn u.1))) (nmV Tp tn (skq Tp tn (skq Tp tn u.1 + 1))) (by first | assumption | omega)) (cwV 3 hts gX2_parseWheel_X3_append rfl rfl rfl (by decide +kernel) ⟨Nat.le_of_ble_eq_true rfl, Nat.le_of_ble_eq_true rfl⟩) (rw_preV hKK (hP.sub [2, 3, 4, 5] rfl) (hD.sub [2, 3, 4, 5] (by decide) rfl) rfl rfl) rfl rfl hl.1 rfl (lv_room (Nat.le_of_ble_eq_true rfl)) dX2_parseWheel_100 ⟨Nat.zero_le _, Nat.zero_le _⟩) (wr := [(t0, .inr (2, [.ref ta, .int (nI tn), .int (nI (nmP Tp tn (skq Tp tn (skq Tp tn u.1 + 1)))), .ref q3])), (ta, .inl (cI, 40, .inl (nA Tp)))]) hP hD hS hA [2, 3, 4, 5] [0, 1] rfl rfl (by decide) (by decide) (fun H locs hP hD hS => ?_)
        have hP : va_P (dC, dI) vwCl [(t0, .inr (2, [.ref ta, .int (nI tn), .int (nI (nmP Tp tn (skq Tp tn (skq Tp tn u.1 + 1)))), .ref q3])), (ta, .inl (cI, 40, .inl (nA Tp))), (q3, .inr (3, [.int (nI (u.2.1 + 1)), .int (nI u.2.2.1), .int (nI u.2.2.2.1), .int (nI (u.2.2.2.2.1 * (nmV Tp tn (skq Tp tn (skq Tp tn u.1 + 1))))), .ref qk, .ref qw, .ref qs])), (qk, .inl (cI, 6, .inl (upd (nA u.2.2.2.2.2.1) u.2.1 (nI (kcN (lkI Tp tn (skq Tp tn u.1))))))), (qw, .inl (cI, 6, .inl (upd (nA u.2.2.2.2.2.2) u.2.1 (nI (nmV Tp tn (skq Tp tn (skq Tp tn u.1 + 1))))))), (qs, .inl (cI, 6, .inl sf))] H := hP.sub [0, 1, 2, 3, 4, 5] rfl
        have hD : va_D A [(t0, .inr (2, [.ref ta, .int (nI tn), .int (nI (nmP Tp tn (skq Tp tn (skq Tp tn u.1 + 1)))), .ref q3])), (ta, .inl (cI, 40, .inl (nA Tp))), (q3, .inr (3, [.int (nI (u.2.1 + 1)), .int (nI u.2.2.1), .int (nI u.2.2.2.1), .int (nI (u.2.2.2.2.1 * (nmV Tp tn (skq Tp tn (skq Tp tn u.1 + 1))))), .ref qk, .ref qw, .ref qs])), (qk, .inl (cI, 6, .inl (upd (nA u.2.2.2.2.2.1) u.2.1 (nI (kcN (lkI Tp tn (skq Tp tn u.1))))))), (qw, .inl (cI, 6, .inl (upd (nA u.2.2.2.2.2.2) u.2.1 (nI (nmV Tp tn (skq Tp tn (skq Tp tn u.1 + 1))))))), (qs, .inl (cI, 6, .inl sf))] := hD.sub [0, 1, 2, 3, 4, 5] (by decide) rfl
        have ec : upd (nA u.2.2.2.2.2.1) u.2.1 (nI (kcN (lkI Tp tn (skq Tp tn u.1)))) = nA (uN u.2.2.2.2.2.1 u.2.1 (kcN (lkI Tp tn (skq Tp tn u.1)))) := nA_upd _ _ _
        rw [ec] at hP hD
        have hP : va_P (dC, dI) vwCl [(t0, .inr (2, [.ref ta, .int (nI tn), .int (nI (nmP Tp tn (skq Tp tn (skq Tp tn u.1 + 1)))), .ref q3])), (ta, .inl (cI, 40, .inl (nA Tp))), (q3, .inr (3, [.int (nI (u.2.1 + 1)), .int (nI u.2.2.1), .int (nI u.2.2.2.1), .int (nI (u.2.2.2.2.1 * (nmV Tp tn (skq Tp tn (skq Tp tn u.1 + 1))))), .ref qk, .ref qw, .ref qs])), (qk, .inl (cI, 6, .inl (nA (uN u.2.2.2.2.2.1 u.2.1 (kcN (lkI Tp tn (skq Tp tn u.1))))))), (qw, .inl (cI, 6, .inl (upd (nA u.2.2.2.2.2.2) u.2.1 (nI (nmV Tp tn (skq Tp tn (skq Tp tn u.1 + 1))))))), (qs, .inl (cI, 6, .inl sf))] H := hP
        have hD : va_D A [(t0, .inr (2, [.ref ta, .int (nI tn), .int (nI (nmP Tp tn (skq Tp tn (skq Tp tn u.1 + 1)))), .ref q3])), (ta, .inl (cI, 40, .inl (nA Tp))), (q3, .inr (3, [.int (nI (u.2.1 + 1)), .int (nI u.2.2.1), .int (nI u.2.2.2.1), .int (nI (u.2.2.2.2.1 * (nmV Tp tn (skq Tp tn (skq Tp tn u.1 + 1))))), .ref qk, .ref qw, .ref qs])), (qk, .inl (cI, 6, .inl (nA (uN u.2.2.2.2.2.1 u.2.1 (kcN (lkI Tp tn (skq Tp tn u.1))))))), (qw, .inl (cI, 6, .inl (upd (nA u.2.2.2.2.2.2) u.2.1 (nI (nmV Tp tn (skq Tp tn (skq Tp tn u.1 + 1))))))), (qs, .inl (cI, 6, .inl sf))] := hD
        have ec : upd (nA u.2.2.2.2.2.2) u.2.1 (nI (nmV Tp tn (skq Tp tn (skq Tp tn u.1 + 1)))) = nA (uN u.2.2.2.2.2.2 u.2.1 (nmV Tp tn (skq Tp tn (skq Tp tn u.1 + 1)))) := nA_upd _ _ _
        rw [ec] at hP hD
        have hP : va_P (dC, dI) vwCl [(t0, .inr (2, [.ref ta, .int (nI tn), .int (nI (nmP Tp tn (skq Tp tn (skq Tp tn u.1 + 1)))), .ref q3])), (ta, .inl (cI, 40, .inl (nA Tp))), (q3, .inr (3, [.int (nI (u.2.1 + 1)), .int (nI u.2.2.1), .int (nI u.2.2.2.1), .int (nI (u.2.2.2.2.1 * (nmV Tp tn (skq Tp tn (skq Tp tn u.1 + 1))))), .ref qk, .ref qw, .ref qs])), (qk, .inl (cI, 6, .inl (nA (uN u.2.2.2.2.2.1 u.2.1 (kcN (lkI Tp tn (skq Tp tn u.1))))))), (qw, .inl (cI, 6, .inl (nA (uN u.2.2.2.2.2.2 u.2.1 (nmV Tp tn (skq Tp tn (skq Tp tn u.1 + 1))))))), (qs, .inl (cI, 6, .inl sf))] H := hP
        have hD : va_D A [(t0, .inr (2, [.ref ta, .int (nI tn), .int (nI (nmP Tp tn (skq Tp tn (skq Tp tn u.1 + 1)))), .ref q3])), (ta, .inl (cI, 40, .inl (nA Tp))), (q3, .inr (3, [.int (nI (u.2.1 + 1)), .int (nI u.2.2.1), .int (nI u.2.2.2.1), .int (nI (u.2.2.2.2.1 * (nmV Tp tn (skq Tp tn (skq Tp tn u.1 + 1))))), .ref qk, .ref qw, .ref qs])), (qk, .inl (cI, 6, .inl (nA (uN u.2.2.2.2.2.1 u.2.1 (kcN (lkI Tp tn (skq Tp tn u.1))))))), (qw, .inl (cI, 6, .inl (nA (uN u.2.2.2.2.2.2 u.2.1 (nmV Tp tn (skq Tp tn (skq Tp tn u.1 + 1))))))), (qs, .inl (cI, 6, .inl sf))] := hD
        refine lv_iconst (v := (nI 0)) hx hb dX2_parseWheel_103 (by decide) ?_
        rw [pwS_4 c23 c51 c83]
        exact rr_iretW hx hb hr hlocks dX2_parseWheel_104 hP hD hS (rfl)
      refine lv_iload hx hb dX2_parseWheel_86 (lv_at hl 1 rfl) ?_
      refine rr_callR (va_runS (As := [.int (nI (skq Tp tn (skq Tp tn u.1 + 1)))]) (rest := []) ⟨hx, hb, hml, hown, hts⟩ (c_X2_faultAt l (skq Tp tn (skq Tp tn u.1 + 1)) ) (va_cwS 1 hts gX2_parseWheel_X2_faultAt rfl rfl rfl (by decide +kernel) ⟨Nat.le_of_ble_eq_true rfl, Nat.le_of_ble_eq_true rfl⟩) rr_preT rfl rfl hl.1 rfl (lv_room (Nat.le_of_ble_eq_true rfl)) dX2_parseWheel_88 ⟨Nat.zero_le _, Nat.zero_le _⟩) ?_
      rw [pwS_3 c23 c51 c83]
      exact rr_iretW hx hb hr hlocks dX2_parseWheel_91 hP hD hS (rfl)
    refine lv_aload_n hx hb dX2_parseWheel_54 rfl (lv_at hl 2 rfl) ?_
    refine va_get (D := (dC, dI)) (ci := 2) (v := .int (nI (skq Tp tn (skq Tp tn u.1 + 1)))) (C := RX2) (T := TX2) (N := 4) hx hb hts hiX2 hown hK hP 0 rfl rfl 2 (by decide) (hts (.fieldLink RX2 26 "RestRegisters$Tape" "place" "I") (by decide +kernel)) (fun _ h9 => h9) rfl dX2_parseWheel_55 ?_
    refine rr_callR (va_runS (As := [.int (nI (skq Tp tn (skq Tp tn u.1 + 1)))]) (rest := []) ⟨hx, hb, hml, hown, hts⟩ (c_X2_faultAt l (skq Tp tn (skq Tp tn u.1 + 1)) ) (va_cwS 1 hts gX2_parseWheel_X2_faultAt rfl rfl rfl (by decide +kernel) ⟨Nat.le_of_ble_eq_true rfl, Nat.le_of_ble_eq_true rfl⟩) rr_preT rfl rfl hl.1 rfl (lv_room (Nat.le_of_ble_eq_true rfl)) dX2_parseWheel_58 ⟨Nat.zero_le _, Nat.zero_le _⟩) ?_
    rw [pwS_2 c23 c51]
    exact rr_iretW hx hb hr hlocks dX2_parseWheel_61 hP hD hS (rfl)
  have c23 := Int32.not_le.mp c23
  refine lv_aload_n hx hb dX2_parseWheel_26 rfl (lv_at hl 2 rfl) ?_
  refine va_get (D := (dC, dI)) (ci := 2) (v := .int (nI (skq Tp tn u.1))) (C := RX2) (T := TX2) (N := 4) hx hb hts hiX2 hown hK hP 0 rfl rfl 2 (by decide) (hts (.fieldLink RX2 26 "RestRegisters$Tape" "place" "I") (by decide +kernel)) (fun _ h9 => h9) rfl dX2_parseWheel_27 ?_
  refine rr_callR (va_runS (As := [.int (nI (skq Tp tn u.1))]) (rest := []) ⟨hx, hb, hml, hown, hts⟩ (c_X2_faultAt l (skq Tp tn u.1) ) (va_cwS 1 hts gX2_parseWheel_X2_faultAt rfl rfl rfl (by decide +kernel) ⟨Nat.le_of_ble_eq_true rfl, Nat.le_of_ble_eq_true rfl⟩) rr_preT rfl rfl hl.1 rfl (lv_room (Nat.le_of_ble_eq_true rfl)) dX2_parseWheel_30 ⟨Nat.zero_le _, Nat.zero_le _⟩) ?_
  rw [pwS_1 c23]
  exact rr_iretW hx hb hr hlocks dX2_parseWheel_33 hP hD hS (rfl)
set_option maxHeartbeats 4000000 in
set_option maxRecDepth 100000 in
theorem c_X2_parseGroup_f (l : Launch) (dC : Nat → ClassId) (dI : Nat → Nat → Nat) (cI cJ cS : ClassId) (sz : Nat) (aK aV : Nat) (t0 ta q3 qk qw qs : Nat) (tn : Nat) (Tp : Nat → Nat) (sf : Nat → Int32) (u : PSt) (ht : tpOk Tp tn) (hu : pOk tn u) (hu5 : u.2.1 + 4 ≤ 6) (huc : false = false → u.2.2.1 = u.2.1) : Met l yX2_parseGroup wsX2_parseGroup ({ frames := 5, cells := 0, slots := 0, locals := 116 }) (va_Pc [.ref t0, .int (nI 4), .int (bi false)] (rWS (dC, dI) vwCl [(t0, .inr (2, [.ref ta, .int (nI tn), .int (nI u.1), .ref q3])), (ta, .inl (cI, 40, .inl (nA Tp))), (q3, .inr (3, [.int (nI u.2.1), .int (nI u.2.2.1), .int (nI u.2.2.2.1), .int (nI u.2.2.2.2.1), .ref qk, .ref qw, .ref qs])), (qk, .inl (cI, 6, .inl (nA u.2.2.2.2.2.1))), (qw, .inl (cI, 6, .inl (nA u.2.2.2.2.2.2))), (qs, .inl (cI, 6, .inl sf))] (tyz cI cJ cS) sz aK aV)) (qI ((pgS Tp tn false 4 u).2) (dC, dI) vwCl [(t0, .inr (2, [.ref ta, .int (nI tn), .int (nI ((pgS Tp tn false 4 u).1.1)), .ref q3])), (ta, .inl (cI, 40, .inl (nA Tp))), (q3, .inr (3, [.int (nI ((pgS Tp tn false 4 u).1.2.1)), .int (nI ((pgS Tp tn false 4 u).1.2.2.1)), .int (nI ((pgS Tp tn false 4 u).1.2.2.2.1)), .int (nI ((pgS Tp tn false 4 u).1.2.2.2.2.1)), .ref qk, .ref qw, .ref qs])), (qk, .inl (cI, 6, .inl (nA (pgS Tp tn false 4 u).1.2.2.2.2.2.1))), (qw, .inl (cI, 6, .inl (nA (pgS Tp tn false 4 u).1.2.2.2.2.2.2))), (qs, .inl (cI, 6, .inl sf))] (va_A [(t0, .inr (2, [.ref ta, .int (nI tn), .int (nI u.1), .ref q3])), (ta, .inl (cI, 40, .inl (nA Tp))), (q3, .inr (3, [.int (nI u.2.1), .int (nI u.2.2.1), .int (nI u.2.2.2.1), .int (nI u.2.2.2.2.1), .ref qk, .ref qw, .ref qs])), (qk, .inl (cI, 6, .inl (nA u.2.2.2.2.2.1))), (qw, .inl (cI, 6, .inl (nA u.2.2.2.2.2.2))), (qs, .inl (cI, 6, .inl sf))] sz)) 0 0 (va_A [(t0, .inr (2, [.ref ta, .int (nI tn), .int (nI u.1), .ref q3])), (ta, .inl (cI, 40, .inl (nA Tp))), (q3, .inr (3, [.int (nI u.2.1), .int (nI u.2.2.1), .int (nI u.2.2.2.1), .int (nI u.2.2.2.2.1), .ref qk, .ref qw, .ref qs])), (qk, .inl (cI, 6, .inl (nA u.2.2.2.2.2.1))), (qw, .inl (cI, 6, .inl (nA u.2.2.2.2.2.2))), (qs, .inl (cI, 6, .inl sf))] sz) := by
  refine Met.ofW (cc := cX2_parseGroup) (maxL := 5) (ret := (some .int)) (by decide) rfl ?_
  intro p e s m args below meth c s₁ B hml hv
  obtain ⟨rfl, ⟨hsz, hP, hKK, hD0⟩, hZ⟩ := hv
  have hK := hKK.1
  have hx := B.exec
  have hb := B.bytes
  have hr := B.returns
  have hts := atoms_spec (ws := wsX2_parseGroup) B.pre
  have hown : s.vm.findClass RX2 = some m.cls := findClass_of_methodNamed B.named
  have hlocks := B.notSynchronized
  subst hsz
  have hD := hD0.self (sz := s.heap.size)
  generalize hAe : va_A [(t0, .inr (2, [.ref ta, .int (nI tn), .int (nI u.1), .ref q3])), (ta, .inl (cI, 40, .inl (nA Tp))), (q3, .inr (3, [.int (nI u.2.1), .int (nI u.2.2.1), .int (nI u.2.2.2.1), .int (nI u.2.2.2.2.1), .ref qk, .ref qw, .ref qs])), (qk, .inl (cI, 6, .inl (nA u.2.2.2.2.2.1))), (qw, .inl (cI, 6, .inl (nA u.2.2.2.2.2.2))), (qs, .inl (cI, 6, .inl sf))] s.heap.size = A at hD hZ ⊢
  have hA : ∀ q : Nat, s.heap.size ≤ q → A q := fun q h => by rw [← hAe]; exact Or.inr h
  have hS : va_S A s.heap s.heap [] := va_S.rf
  have hP : va_P (dC, dI) vwCl [(t0, .inr (2, [.ref ta, .int (nI tn), .int (nI u.1), .ref q3])), (ta, .inl (cI, 40, .inl (nA Tp))), (q3, .inr (3, [.int (nI u.2.1), .int (nI u.2.2.1), .int (nI u.2.2.2.1), .int (nI u.2.2.2.2.1), .ref qk, .ref qw, .ref qs])), (qk, .inl (cI, 6, .inl (nA u.2.2.2.2.2.1))), (qw, .inl (cI, 6, .inl (nA u.2.2.2.2.2.2))), (qs, .inl (cI, 6, .inl sf))] s.heap := hP
  have hiX2 : ∀ w ∈ wsX20, w ∈ wsX2_parseGroup := by decide +kernel
  have hl := lv_entry ([.ref t0, .int (nI 4), .int (bi false)]) (n := 5) (Nat.le_of_ble_eq_true rfl)
  rw [lg_entry_eq]
  generalize (lg_sl ([.ref t0, .int (nI 4), .int (bi false)]) ++ List.replicate (5 - (lg_sl ([.ref t0, .int (nI 4), .int (bi false)])).length) Slot.unset).toArray = ls at hl ⊢
  have hl : lv_has ls 5 [(0, .ref t0), (1, .int (nI 4)), (2, .int (bi false))] := hl
  have h40 := ht.1
  refine lv_iconst (v := (nI 1)) hx hb dX2_parseGroup_0 (by decide) ?_
  refine lv_istore_n (lv' := [(3, .int (nI 1)), (0, .ref t0), (1, .int (nI 4)), (2, .int (bi false))]) hx hb dX2_parseGroup_1 rfl hl (by decide) rfl (fun ls hl => ?_)
  refine rlW2 (A1 := Nat) (A2 := PSt) (fun H locs ls => W p l e _ s m _ below meth c H locs 0 0 _ (F0 m 2 ls [])) (fun i v H locs ls => 1 ≤ i ∧ i ≤ 4 ∧ pOk tn v ∧ (false = false → v.2.2.1 = v.2.1) ∧ v.2.1 + (4 + 1 - i) ≤ 6 ∧ pgS Tp tn false (4 + 1 - i) v = pgS Tp tn false 4 u ∧ va_P (dC, dI) vwCl [(t0, .inr (2, [.ref ta, .int (nI tn), .int (nI v.1), .ref q3])), (ta, .inl (cI, 40, .inl (nA Tp))), (q3, .inr (3, [.int (nI v.2.1), .int (nI v.2.2.1), .int (nI v.2.2.2.1), .int (nI v.2.2.2.2.1), .ref qk, .ref qw, .ref qs])), (qk, .inl (cI, 6, .inl (nA v.2.2.2.2.2.1))), (qw, .inl (cI, 6, .inl (nA v.2.2.2.2.2.2))), (qs, .inl (cI, 6, .inl sf))] H ∧ va_D A [(t0, .inr (2, [.ref ta, .int (nI tn), .int (nI v.1), .ref q3])), (ta, .inl (cI, 40, .inl (nA Tp))), (q3, .inr (3, [.int (nI v.2.1), .int (nI v.2.2.1), .int (nI v.2.2.2.1), .int (nI v.2.2.2.2.1), .ref qk, .ref qw, .ref qs])), (qk, .inl (cI, 6, .inl (nA v.2.2.2.2.2.1))), (qw, .inl (cI, 6, .inl (nA v.2.2.2.2.2.2))), (qs, .inl (cI, 6, .inl sf))] ∧ va_S A s.heap H locs ∧ lv_has ls 5 [(3, .int (nI i)), (0, .ref t0), (1, .int (nI 4)), (2, .int (bi false))]) (fun i v => 4 + 1 - i) ?_ 1 u _ _ ls ⟨by omega, by omega, hu, huc, hu5, rfl, hP, hD, hS, lv_sub hl [0, 1, 2, 3] rfl⟩
  rintro i v H locs ls ⟨hi, hi2, hv, hvc, hv5, hE, hP, hD, hS, hl⟩ ih2
  refine lv_iload_n hx hb dX2_parseGroup_2 rfl (lv_at hl 0 rfl) ?_
  refine lv_iload_n hx hb dX2_parseGroup_3 rfl (lv_at hl 2 rfl) ?_
  refine rn_icmp_gt (tgt := 52) hx hb dX2_parseGroup_4 (by decide) (by omega) (by omega) (fun c4 => ?_) (fun c4 => ?_)
  · skip
    exact absurd c4 (by omega)
  refine lv_aload_n hx hb dX2_parseGroup_7 rfl (lv_at hl 1 rfl) ?_
  refine lv_iload_n hx hb dX2_parseGroup_8 rfl (lv_at hl 3 rfl) ?_
  refine rw_calli (va_runV (As := [.int (bi false)]) (rest := []) ⟨hx, hb, hml, hown, hts⟩ (c_X2_parseWheel_f l dC dI cI cJ cS _ aK aV t0 ta q3 qk qw qs tn Tp sf v (by first | assumption | omega) (hv) (by omega)) (cwV 1 hts gX2_parseGroup_X2_parseWheel rfl rfl rfl (by decide +kernel) ⟨Nat.le_of_ble_eq_true rfl, Nat.le_of_ble_eq_true rfl⟩) (rws_preV hKK hP hD ((hZ.kept hS.2.1).narrow (va_free hD hS hA [0, 1, 2, 3, 4, 5] rfl)) rfl rfl) rfl rfl hl.1 rfl (lv_room (Nat.le_of_ble_eq_true rfl)) dX2_parseGroup_9 ⟨Nat.zero_le _, Nat.zero_le _⟩) (wr := []) hP hD hS hA [0, 1, 2, 3, 4, 5] [] rfl rfl (by decide) (by decide) (fun H locs hP hD hS => ?_)
  have hP : va_P (dC, dI) vwCl [(t0, .inr (2, [.ref ta, .int (nI tn), .int (nI ((pwS Tp tn false v).1.1)), .ref q3])), (ta, .inl (cI, 40, .inl (nA Tp))), (q3, .inr (3, [.int (nI ((pwS Tp tn false v).1.2.1)), .int (nI ((pwS Tp tn false v).1.2.2.1)), .int (nI ((pwS Tp tn false v).1.2.2.2.1)), .int (nI ((pwS Tp tn false v).1.2.2.2.2.1)), .ref qk, .ref qw, .ref qs])), (qk, .inl (cI, 6, .inl (nA (pwS Tp tn false v).1.2.2.2.2.2.1))), (qw, .inl (cI, 6, .inl (nA (pwS Tp tn false v).1.2.2.2.2.2.2))), (qs, .inl (cI, 6, .inl sf))] H := hP.sub [0, 1, 2, 3, 4, 5] rfl
  have hD : va_D A [(t0, .inr (2, [.ref ta, .int (nI tn), .int (nI ((pwS Tp tn false v).1.1)), .ref q3])), (ta, .inl (cI, 40, .inl (nA Tp))), (q3, .inr (3, [.int (nI ((pwS Tp tn false v).1.2.1)), .int (nI ((pwS Tp tn false v).1.2.2.1)), .int (nI ((pwS Tp tn false v).1.2.2.2.1)), .int (nI ((pwS Tp tn false v).1.2.2.2.2.1)), .ref qk, .ref qw, .ref qs])), (qk, .inl (cI, 6, .inl (nA (pwS Tp tn false v).1.2.2.2.2.2.1))), (qw, .inl (cI, 6, .inl (nA (pwS Tp tn false v).1.2.2.2.2.2.2))), (qs, .inl (cI, 6, .inl sf))] := hD.sub [0, 1, 2, 3, 4, 5] (by decide) rfl
  have hw := pwS_ok (ck := false) ht hv hvc
  refine lv_istore (lv' := [(4, .int ((pwS Tp tn false v).2)), (3, .int (nI i)), (0, .ref t0), (1, .int (nI 4)), (2, .int (bi false))]) hx hb dX2_parseGroup_12 hl (by decide) rfl (fun ls hl => ?_)
  refine lv_iload hx hb dX2_parseGroup_14 (lv_at hl 0 rfl) ?_
  refine lv_if_ne (tgt := 33) hx hb dX2_parseGroup_16 (by decide) (fun c16 => ?_) (fun c16 => ?_)
  · skip
    refine lv_iload hx hb dX2_parseGroup_33 (lv_at hl 0 rfl) ?_
    have e0 : pgS Tp tn false (4 + 1 - i) v = (pwS Tp tn false v) := by rw [show 4 + 1 - i = (4 - i) + 1 by omega, pgS, if_pos (by first | exact Or.inl c16 | exact Or.inr (by omega))]
    rw [← hE, e0]
    exact rr_iretW hx hb hr hlocks dX2_parseGroup_35 hP hD hS (by first | rfl | exact c16)
  refine lv_iload_n hx hb dX2_parseGroup_19 rfl (lv_at hl 1 rfl) ?_
  refine lv_iload_n hx hb dX2_parseGroup_20 rfl (lv_at hl 3 rfl) ?_
  refine rn_icmp_eq (tgt := 33) hx hb dX2_parseGroup_21 (by decide) (by omega) (by omega) (fun c21 => ?_) (fun c21 => ?_)
  · skip
    refine lv_iload hx hb dX2_parseGroup_33 (lv_at hl 0 rfl) ?_
    have e0 : pgS Tp tn false (4 + 1 - i) v = (pwS Tp tn false v) := by rw [show 4 + 1 - i = (4 - i) + 1 by omega, pgS, if_pos (by first | exact Or.inl c16 | exact Or.inr (by omega))]
    rw [← hE, e0]
    exact rr_iretW hx hb hr hlocks dX2_parseGroup_35 hP hD hS (by first | rfl | exact c16)
  refine lv_aload_n hx hb dX2_parseGroup_24 rfl (lv_at hl 2 rfl) ?_
  refine rw_calli (va_runV (As := []) (rest := []) ⟨hx, hb, hml, hown, hts⟩ (c_X2_ahead l dC dI cI cJ cS _ t0 ta q3 tn ((pwS Tp tn false v).1.1) Tp (by first | assumption | omega) (hw.1.1)) (cwV 0 hts gX2_parseGroup_X2_ahead rfl rfl rfl (by decide +kernel) ⟨Nat.le_of_ble_eq_true rfl, Nat.le_of_ble_eq_true rfl⟩) (rw_preV hKK (hP.sub [0, 1] rfl) (hD.sub [0, 1] (by decide) rfl) rfl rfl) rfl rfl hl.1 rfl (lv_room (Nat.le_of_ble_eq_true rfl)) dX2_parseGroup_25 ⟨Nat.zero_le _, Nat.zero_le _⟩) (wr := [(q3, .inr (3, [.int (nI ((pwS Tp tn false v).1.2.1)), .int (nI ((pwS Tp tn false v).1.2.2.1)), .int (nI ((pwS Tp tn false v).1.2.2.2.1)), .int (nI ((pwS Tp tn false v).1.2.2.2.2.1)), .ref qk, .ref qw, .ref qs])), (qk, .inl (cI, 6, .inl (nA (pwS Tp tn false v).1.2.2.2.2.2.1))), (qw, .inl (cI, 6, .inl (nA (pwS Tp tn false v).1.2.2.2.2.2.2))), (qs, .inl (cI, 6, .inl sf))]) hP hD hS hA [0, 1] [2, 3, 4, 5] rfl rfl (by decide) (by decide) (fun H locs hP hD hS => ?_)
  have hP : va_P (dC, dI) vwCl [(t0, .inr (2, [.ref ta, .int (nI tn), .int (nI (skq Tp tn ((pwS Tp tn false v).1.1))), .ref q3])), (ta, .inl (cI, 40, .inl (nA Tp))), (q3, .inr (3, [.int (nI ((pwS Tp tn false v).1.2.1)), .int (nI ((pwS Tp tn false v).1.2.2.1)), .int (nI ((pwS Tp tn false v).1.2.2.2.1)), .int (nI ((pwS Tp tn false v).1.2.2.2.2.1)), .ref qk, .ref qw, .ref qs])), (qk, .inl (cI, 6, .inl (nA (pwS Tp tn false v).1.2.2.2.2.2.1))), (qw, .inl (cI, 6, .inl (nA (pwS Tp tn false v).1.2.2.2.2.2.2))), (qs, .inl (cI, 6, .inl sf))] H := hP.sub [4, 5, 0, 1, 2, 3] rfl
  have hD : va_D A [(t0, .inr (2, [.ref ta, .int (nI tn), .int (nI (skq Tp tn ((pwS Tp tn false v).1.1))), .ref q3])), (ta, .inl (cI, 40, .inl (nA Tp))), (q3, .inr (3, [.int (nI ((pwS Tp tn false v).1.2.1)), .int (nI ((pwS Tp tn false v).1.2.2.1)), .int (nI ((pwS Tp tn false v).1.2.2.2.1)), .int (nI ((pwS Tp tn false v).1.2.2.2.2.1)), .ref qk, .ref qw, .ref qs])), (qk, .inl (cI, 6, .inl (nA (pwS Tp tn false v).1.2.2.2.2.2.1))), (qw, .inl (cI, 6, .inl (nA (pwS Tp tn false v).1.2.2.2.2.2.2))), (qs, .inl (cI, 6, .inl sf))] := hD.sub [4, 5, 0, 1, 2, 3] (by decide) rfl
  refine lv_bipush (v := (nI 44)) hx hb dX2_parseGroup_28 (by decide) ?_
  refine lv_icmp_eq (tgt := 36) hx hb dX2_parseGroup_30 (by decide) (fun c30 => ?_) (fun c30 => ?_)
  · skip
    have hlt : skq Tp tn (pwS Tp tn false v).1.1 < tn := Decidable.byContradiction (fun z => by rw [lkI_f z] at c30; exact absurd c30 (by decide))
    refine lv_aload_n hx hb dX2_parseGroup_36 rfl (lv_at hl 2 rfl) ?_
    refine lv_dup hx hb dX2_parseGroup_37 rfl ?_
    refine va_get (D := (dC, dI)) (ci := 2) (v := .int (nI (skq Tp tn ((pwS Tp tn false v).1.1)))) (C := RX2) (T := TX2) (N := 4) hx hb hts hiX2 hown hK hP 0 rfl rfl 2 (by decide) (hts (.fieldLink RX2 26 "RestRegisters$Tape" "place" "I") (by decide +kernel)) (fun _ h9 => h9) rfl dX2_parseGroup_38 ?_
    refine lv_iconst (v := (nI 1)) hx hb dX2_parseGroup_41 (by decide) ?_
    refine rn_iadd hx hb dX2_parseGroup_42 ?_
    refine va_put (D := (dC, dI)) (ci := 2) (v := .int (nI (skq Tp tn ((pwS Tp tn false v).1.1) + 1))) (ty := .int) (C := RX2) (T := TX2) (N := 4) hx hb hts hiX2 tyX2 tyX2_ok nmX2 hown hK hP hD hS 0 rfl rfl 2 (by decide) (hts (.fieldLink RX2 26 "RestRegisters$Tape" "place" "I") (by decide +kernel)) (fun _ h9 => h9) rfl (by decide +kernel) rfl rfl (Nat.le_of_ble_eq_true rfl) dX2_parseGroup_43 (fun H locs hP hD hS => ?_)
    have hP : va_P (dC, dI) vwCl [(t0, .inr (2, [.ref ta, .int (nI tn), .int (nI (skq Tp tn ((pwS Tp tn false v).1.1) + 1)), .ref q3])), (ta, .inl (cI, 40, .inl (nA Tp))), (q3, .inr (3, [.int (nI ((pwS Tp tn false v).1.2.1)), .int (nI ((pwS Tp tn false v).1.2.2.1)), .int (nI ((pwS Tp tn false v).1.2.2.2.1)), .int (nI ((pwS Tp tn false v).1.2.2.2.2.1)), .ref qk, .ref qw, .ref qs])), (qk, .inl (cI, 6, .inl (nA (pwS Tp tn false v).1.2.2.2.2.2.1))), (qw, .inl (cI, 6, .inl (nA (pwS Tp tn false v).1.2.2.2.2.2.2))), (qs, .inl (cI, 6, .inl sf))] H := hP
    have hD : va_D A [(t0, .inr (2, [.ref ta, .int (nI tn), .int (nI (skq Tp tn ((pwS Tp tn false v).1.1) + 1)), .ref q3])), (ta, .inl (cI, 40, .inl (nA Tp))), (q3, .inr (3, [.int (nI ((pwS Tp tn false v).1.2.1)), .int (nI ((pwS Tp tn false v).1.2.2.1)), .int (nI ((pwS Tp tn false v).1.2.2.2.1)), .int (nI ((pwS Tp tn false v).1.2.2.2.2.1)), .ref qk, .ref qw, .ref qs])), (qk, .inl (cI, 6, .inl (nA (pwS Tp tn false v).1.2.2.2.2.2.1))), (qw, .inl (cI, 6, .inl (nA (pwS Tp tn false v).1.2.2.2.2.2.2))), (qs, .inl (cI, 6, .inl sf))] := hD
    refine lv_iinc (v := (nI (i + 1))) (lv' := [(3, .int (nI (i + 1))), (4, .int ((pwS Tp tn false v).2)), (0, .ref t0), (1, .int (nI 4)), (2, .int (bi false))]) hx hb dX2_parseGroup_46 hl (k := 1) rfl (rn_inc i 1) (by decide) rfl (fun ls hl => ?_)
    refine lv_goto (tgt := 2) hx hb dX2_parseGroup_49 (by decide) ?_
    exact ih2 (i + 1) (skq Tp tn (pwS Tp tn false v).1.1 + 1, (pwS Tp tn false v).1.2) _ _ ls ⟨by omega, by omega, ⟨hlt, hw.1.2⟩, hw.2.1, (by show (pwS Tp tn false v).1.2.1 + _ ≤ 6; rw [hw.2.2.1 c16]; omega), (by rw [← hE, show 4 + 1 - i = (4 - i) + 1 by omega, pgS, if_neg (by intro z; rcases z with z | z; exact z c16; omega), if_pos c30, show 4 + 1 - (i + 1) = 4 - i by omega]), hP, hD, hS, lv_sub hl [0, 2, 3, 4] rfl⟩ (by omega)
  refine lv_iload hx hb dX2_parseGroup_33 (lv_at hl 0 rfl) ?_
  have e0 : pgS Tp tn false (4 + 1 - i) v = ((skq Tp tn (pwS Tp tn false v).1.1, (pwS Tp tn false v).1.2), 0) := by rw [show 4 + 1 - i = (4 - i) + 1 by omega, pgS, if_neg (by intro z; rcases z with z | z; exact z c16; omega), if_neg c30]
  rw [← hE, e0]
  exact rr_iretW hx hb hr hlocks dX2_parseGroup_35 hP hD hS (by first | rfl | exact c16)
set_option maxHeartbeats 4000000 in
set_option maxRecDepth 100000 in
theorem c_X2_parseGroup_t (l : Launch) (dC : Nat → ClassId) (dI : Nat → Nat → Nat) (cI cJ cS : ClassId) (sz : Nat) (aK aV : Nat) (t0 ta q3 qk qw qs : Nat) (tn : Nat) (Tp : Nat → Nat) (sf : Nat → Int32) (u : PSt) (ht : tpOk Tp tn) (hu : pOk tn u) (hu5 : u.2.1 + 2 ≤ 6) (huc : true = false → u.2.2.1 = u.2.1) : Met l yX2_parseGroup wsX2_parseGroup ({ frames := 5, cells := 0, slots := 0, locals := 116 }) (va_Pc [.ref t0, .int (nI 2), .int (bi true)] (rWS (dC, dI) vwCl [(t0, .inr (2, [.ref ta, .int (nI tn), .int (nI u.1), .ref q3])), (ta, .inl (cI, 40, .inl (nA Tp))), (q3, .inr (3, [.int (nI u.2.1), .int (nI u.2.2.1), .int (nI u.2.2.2.1), .int (nI u.2.2.2.2.1), .ref qk, .ref qw, .ref qs])), (qk, .inl (cI, 6, .inl (nA u.2.2.2.2.2.1))), (qw, .inl (cI, 6, .inl (nA u.2.2.2.2.2.2))), (qs, .inl (cI, 6, .inl sf))] (tyz cI cJ cS) sz aK aV)) (qI ((pgS Tp tn true 2 u).2) (dC, dI) vwCl [(t0, .inr (2, [.ref ta, .int (nI tn), .int (nI ((pgS Tp tn true 2 u).1.1)), .ref q3])), (ta, .inl (cI, 40, .inl (nA Tp))), (q3, .inr (3, [.int (nI ((pgS Tp tn true 2 u).1.2.1)), .int (nI ((pgS Tp tn true 2 u).1.2.2.1)), .int (nI ((pgS Tp tn true 2 u).1.2.2.2.1)), .int (nI ((pgS Tp tn true 2 u).1.2.2.2.2.1)), .ref qk, .ref qw, .ref qs])), (qk, .inl (cI, 6, .inl (nA (pgS Tp tn true 2 u).1.2.2.2.2.2.1))), (qw, .inl (cI, 6, .inl (nA (pgS Tp tn true 2 u).1.2.2.2.2.2.2))), (qs, .inl (cI, 6, .inl sf))] (va_A [(t0, .inr (2, [.ref ta, .int (nI tn), .int (nI u.1), .ref q3])), (ta, .inl (cI, 40, .inl (nA Tp))), (q3, .inr (3, [.int (nI u.2.1), .int (nI u.2.2.1), .int (nI u.2.2.2.1), .int (nI u.2.2.2.2.1), .ref qk, .ref qw, .ref qs])), (qk, .inl (cI, 6, .inl (nA u.2.2.2.2.2.1))), (qw, .inl (cI, 6, .inl (nA u.2.2.2.2.2.2))), (qs, .inl (cI, 6, .inl sf))] sz)) 0 0 (va_A [(t0, .inr (2, [.ref ta, .int (nI tn), .int (nI u.1), .ref q3])), (ta, .inl (cI, 40, .inl (nA Tp))), (q3, .inr (3, [.int (nI u.2.1), .int (nI u.2.2.1), .int (nI u.2.2.2.1), .int (nI u.2.2.2.2.1), .ref qk, .ref qw, .ref qs])), (qk, .inl (cI, 6, .inl (nA u.2.2.2.2.2.1))), (qw, .inl (cI, 6, .inl (nA u.2.2.2.2.2.2))), (qs, .inl (cI, 6, .inl sf))] sz) := by
  refine Met.ofW (cc := cX2_parseGroup) (maxL := 5) (ret := (some .int)) (by decide) rfl ?_
  intro p e s m args below meth c s₁ B hml hv
  obtain ⟨rfl, ⟨hsz, hP, hKK, hD0⟩, hZ⟩ := hv
  have hK := hKK.1
  have hx := B.exec
  have hb := B.bytes
  have hr := B.returns
  have hts := atoms_spec (ws := wsX2_parseGroup) B.pre
  have hown : s.vm.findClass RX2 = some m.cls := findClass_of_methodNamed B.named
  have hlocks := B.notSynchronized
  subst hsz
  have hD := hD0.self (sz := s.heap.size)
  generalize hAe : va_A [(t0, .inr (2, [.ref ta, .int (nI tn), .int (nI u.1), .ref q3])), (ta, .inl (cI, 40, .inl (nA Tp))), (q3, .inr (3, [.int (nI u.2.1), .int (nI u.2.2.1), .int (nI u.2.2.2.1), .int (nI u.2.2.2.2.1), .ref qk, .ref qw, .ref qs])), (qk, .inl (cI, 6, .inl (nA u.2.2.2.2.2.1))), (qw, .inl (cI, 6, .inl (nA u.2.2.2.2.2.2))), (qs, .inl (cI, 6, .inl sf))] s.heap.size = A at hD hZ ⊢
  have hA : ∀ q : Nat, s.heap.size ≤ q → A q := fun q h => by rw [← hAe]; exact Or.inr h
  have hS : va_S A s.heap s.heap [] := va_S.rf
  have hP : va_P (dC, dI) vwCl [(t0, .inr (2, [.ref ta, .int (nI tn), .int (nI u.1), .ref q3])), (ta, .inl (cI, 40, .inl (nA Tp))), (q3, .inr (3, [.int (nI u.2.1), .int (nI u.2.2.1), .int (nI u.2.2.2.1), .int (nI u.2.2.2.2.1), .ref qk, .ref qw, .ref qs])), (qk, .inl (cI, 6, .inl (nA u.2.2.2.2.2.1))), (qw, .inl (cI, 6, .inl (nA u.2.2.2.2.2.2))), (qs, .inl (cI, 6, .inl sf))] s.heap := hP
  have hiX2 : ∀ w ∈ wsX20, w ∈ wsX2_parseGroup := by decide +kernel
  have hl := lv_entry ([.ref t0, .int (nI 2), .int (bi true)]) (n := 5) (Nat.le_of_ble_eq_true rfl)
  rw [lg_entry_eq]
  generalize (lg_sl ([.ref t0, .int (nI 2), .int (bi true)]) ++ List.replicate (5 - (lg_sl ([.ref t0, .int (nI 2), .int (bi true)])).length) Slot.unset).toArray = ls at hl ⊢
  have hl : lv_has ls 5 [(0, .ref t0), (1, .int (nI 2)), (2, .int (bi true))] := hl
  have h40 := ht.1
  refine lv_iconst (v := (nI 1)) hx hb dX2_parseGroup_0 (by decide) ?_
  refine lv_istore_n (lv' := [(3, .int (nI 1)), (0, .ref t0), (1, .int (nI 2)), (2, .int (bi true))]) hx hb dX2_parseGroup_1 rfl hl (by decide) rfl (fun ls hl => ?_)
  refine rlW2 (A1 := Nat) (A2 := PSt) (fun H locs ls => W p l e _ s m _ below meth c H locs 0 0 _ (F0 m 2 ls [])) (fun i v H locs ls => 1 ≤ i ∧ i ≤ 2 ∧ pOk tn v ∧ (true = false → v.2.2.1 = v.2.1) ∧ v.2.1 + (2 + 1 - i) ≤ 6 ∧ pgS Tp tn true (2 + 1 - i) v = pgS Tp tn true 2 u ∧ va_P (dC, dI) vwCl [(t0, .inr (2, [.ref ta, .int (nI tn), .int (nI v.1), .ref q3])), (ta, .inl (cI, 40, .inl (nA Tp))), (q3, .inr (3, [.int (nI v.2.1), .int (nI v.2.2.1), .int (nI v.2.2.2.1), .int (nI v.2.2.2.2.1), .ref qk, .ref qw, .ref qs])), (qk, .inl (cI, 6, .inl (nA v.2.2.2.2.2.1))), (qw, .inl (cI, 6, .inl (nA v.2.2.2.2.2.2))), (qs, .inl (cI, 6, .inl sf))] H ∧ va_D A [(t0, .inr (2, [.ref ta, .int (nI tn), .int (nI v.1), .ref q3])), (ta, .inl (cI, 40, .inl (nA Tp))), (q3, .inr (3, [.int (nI v.2.1), .int (nI v.2.2.1), .int (nI v.2.2.2.1), .int (nI v.2.2.2.2.1), .ref qk, .ref qw, .ref qs])), (qk, .inl (cI, 6, .inl (nA v.2.2.2.2.2.1))), (qw, .inl (cI, 6, .inl (nA v.2.2.2.2.2.2))), (qs, .inl (cI, 6, .inl sf))] ∧ va_S A s.heap H locs ∧ lv_has ls 5 [(3, .int (nI i)), (0, .ref t0), (1, .int (nI 2)), (2, .int (bi true))]) (fun i v => 2 + 1 - i) ?_ 1 u _ _ ls ⟨by omega, by omega, hu, huc, hu5, rfl, hP, hD, hS, lv_sub hl [0, 1, 2, 3] rfl⟩
  rintro i v H locs ls ⟨hi, hi2, hv, hvc, hv5, hE, hP, hD, hS, hl⟩ ih2
  refine lv_iload_n hx hb dX2_parseGroup_2 rfl (lv_at hl 0 rfl) ?_
  refine lv_iload_n hx hb dX2_parseGroup_3 rfl (lv_at hl 2 rfl) ?_
  refine rn_icmp_gt (tgt := 52) hx hb dX2_parseGroup_4 (by decide) (by omega) (by omega) (fun c4 => ?_) (fun c4 => ?_)
  · skip
    exact absurd c4 (by omega)
  refine lv_aload_n hx hb dX2_parseGroup_7 rfl (lv_at hl 1 rfl) ?_
  refine lv_iload_n hx hb dX2_parseGroup_8 rfl (lv_at hl 3 rfl) ?_
  refine rw_calli (va_runV (As := [.int (bi true)]) (rest := []) ⟨hx, hb, hml, hown, hts⟩ (c_X2_parseWheel_t l dC dI cI cJ cS _ aK aV t0 ta q3 qk qw qs tn Tp sf v (by first | assumption | omega) (hv) (by omega)) (cwV 1 hts gX2_parseGroup_X2_parseWheel rfl rfl rfl (by decide +kernel) ⟨Nat.le_of_ble_eq_true rfl, Nat.le_of_ble_eq_true rfl⟩) (rws_preV hKK hP hD ((hZ.kept hS.2.1).narrow (va_free hD hS hA [0, 1, 2, 3, 4, 5] rfl)) rfl rfl) rfl rfl hl.1 rfl (lv_room (Nat.le_of_ble_eq_true rfl)) dX2_parseGroup_9 ⟨Nat.zero_le _, Nat.zero_le _⟩) (wr := []) hP hD hS hA [0, 1, 2, 3, 4, 5] [] rfl rfl (by decide) (by decide) (fun H locs hP hD hS => ?_)
  have hP : va_P (dC, dI) vwCl [(t0, .inr (2, [.ref ta, .int (nI tn), .int (nI ((pwS Tp tn true v).1.1)), .ref q3])), (ta, .inl (cI, 40, .inl (nA Tp))), (q3, .inr (3, [.int (nI ((pwS Tp tn true v).1.2.1)), .int (nI ((pwS Tp tn true v).1.2.2.1)), .int (nI ((pwS Tp tn true v).1.2.2.2.1)), .int (nI ((pwS Tp tn true v).1.2.2.2.2.1)), .ref qk, .ref qw, .ref qs])), (qk, .inl (cI, 6, .inl (nA (pwS Tp tn true v).1.2.2.2.2.2.1))), (qw, .inl (cI, 6, .inl (nA (pwS Tp tn true v).1.2.2.2.2.2.2))), (qs, .inl (cI, 6, .inl sf))] H := hP.sub [0, 1, 2, 3, 4, 5] rfl
  have hD : va_D A [(t0, .inr (2, [.ref ta, .int (nI tn), .int (nI ((pwS Tp tn true v).1.1)), .ref q3])), (ta, .inl (cI, 40, .inl (nA Tp))), (q3, .inr (3, [.int (nI ((pwS Tp tn true v).1.2.1)), .int (nI ((pwS Tp tn true v).1.2.2.1)), .int (nI ((pwS Tp tn true v).1.2.2.2.1)), .int (nI ((pwS Tp tn true v).1.2.2.2.2.1)), .ref qk, .ref qw, .ref qs])), (qk, .inl (cI, 6, .inl (nA (pwS Tp tn true v).1.2.2.2.2.2.1))), (qw, .inl (cI, 6, .inl (nA (pwS Tp tn true v).1.2.2.2.2.2.2))), (qs, .inl (cI, 6, .inl sf))] := hD.sub [0, 1, 2, 3, 4, 5] (by decide) rfl
  have hw := pwS_ok (ck := true) ht hv hvc
  refine lv_istore (lv' := [(4, .int ((pwS Tp tn true v).2)), (3, .int (nI i)), (0, .ref t0), (1, .int (nI 2)), (2, .int (bi true))]) hx hb dX2_parseGroup_12 hl (by decide) rfl (fun ls hl => ?_)
  refine lv_iload hx hb dX2_parseGroup_14 (lv_at hl 0 rfl) ?_
  refine lv_if_ne (tgt := 33) hx hb dX2_parseGroup_16 (by decide) (fun c16 => ?_) (fun c16 => ?_)
  · skip
    refine lv_iload hx hb dX2_parseGroup_33 (lv_at hl 0 rfl) ?_
    have e0 : pgS Tp tn true (2 + 1 - i) v = (pwS Tp tn true v) := by rw [show 2 + 1 - i = (2 - i) + 1 by omega, pgS, if_pos (by first | exact Or.inl c16 | exact Or.inr (by omega))]
    rw [← hE, e0]
    exact rr_iretW hx hb hr hlocks dX2_parseGroup_35 hP hD hS (by first | rfl | exact c16)
  refine lv_iload_n hx hb dX2_parseGroup_19 rfl (lv_at hl 1 rfl) ?_
  refine lv_iload_n hx hb dX2_parseGroup_20 rfl (lv_at hl 3 rfl) ?_
  refine rn_icmp_eq (tgt := 33) hx hb dX2_parseGroup_21 (by decide) (by omega) (by omega) (fun c21 => ?_) (fun c21 => ?_)
  · skip
    refine lv_iload hx hb dX2_parseGroup_33 (lv_at hl 0 rfl) ?_
    have e0 : pgS Tp tn true (2 + 1 - i) v = (pwS Tp tn true v) := by rw [show 2 + 1 - i = (2 - i) + 1 by omega, pgS, if_pos (by first | exact Or.inl c16 | exact Or.inr (by omega))]
    rw [← hE, e0]
    exact rr_iretW hx hb hr hlocks dX2_parseGroup_35 hP hD hS (by first | rfl | exact c16)
  refine lv_aload_n hx hb dX2_parseGroup_24 rfl (lv_at hl 2 rfl) ?_
  refine rw_calli (va_runV (As := []) (rest := []) ⟨hx, hb, hml, hown, hts⟩ (c_X2_ahead l dC dI cI cJ cS _ t0 ta q3 tn ((pwS Tp tn true v).1.1) Tp (by first | assumption | omega) (hw.1.1)) (cwV 0 hts gX2_parseGroup_X2_ahead rfl rfl rfl (by decide +kernel) ⟨Nat.le_of_ble_eq_true rfl, Nat.le_of_ble_eq_true rfl⟩) (rw_preV hKK (hP.sub [0, 1] rfl) (hD.sub [0, 1] (by decide) rfl) rfl rfl) rfl rfl hl.1 rfl (lv_room (Nat.le_of_ble_eq_true rfl)) dX2_parseGroup_25 ⟨Nat.zero_le _, Nat.zero_le _⟩) (wr := [(q3, .inr (3, [.int (nI ((pwS Tp tn true v).1.2.1)), .int (nI ((pwS Tp tn true v).1.2.2.1)), .int (nI ((pwS Tp tn true v).1.2.2.2.1)), .int (nI ((pwS Tp tn true v).1.2.2.2.2.1)), .ref qk, .ref qw, .ref qs])), (qk, .inl (cI, 6, .inl (nA (pwS Tp tn true v).1.2.2.2.2.2.1))), (qw, .inl (cI, 6, .inl (nA (pwS Tp tn true v).1.2.2.2.2.2.2))), (qs, .inl (cI, 6, .inl sf))]) hP hD hS hA [0, 1] [2, 3, 4, 5] rfl rfl (by decide) (by decide) (fun H locs hP hD hS => ?_)
  have hP : va_P (dC, dI) vwCl [(t0, .inr (2, [.ref ta, .int (nI tn), .int (nI (skq Tp tn ((pwS Tp tn true v).1.1))), .ref q3])), (ta, .inl (cI, 40, .inl (nA Tp))), (q3, .inr (3, [.int (nI ((pwS Tp tn true v).1.2.1)), .int (nI ((pwS Tp tn true v).1.2.2.1)), .int (nI ((pwS Tp tn true v).1.2.2.2.1)), .int (nI ((pwS Tp tn true v).1.2.2.2.2.1)), .ref qk, .ref qw, .ref qs])), (qk, .inl (cI, 6, .inl (nA (pwS Tp tn true v).1.2.2.2.2.2.1))), (qw, .inl (cI, 6, .inl (nA (pwS Tp tn true v).1.2.2.2.2.2.2))), (qs, .inl (cI, 6, .inl sf))] H := hP.sub [4, 5, 0, 1, 2, 3] rfl
  have hD : va_D A [(t0, .inr (2, [.ref ta, .int (nI tn), .int (nI (skq Tp tn ((pwS Tp tn true v).1.1))), .ref q3])), (ta, .inl (cI, 40, .inl (nA Tp))), (q3, .inr (3, [.int (nI ((pwS Tp tn true v).1.2.1)), .int (nI ((pwS Tp tn true v).1.2.2.1)), .int (nI ((pwS Tp tn true v).1.2.2.2.1)), .int (nI ((pwS Tp tn true v).1.2.2.2.2.1)), .ref qk, .ref qw, .ref qs])), (qk, .inl (cI, 6, .inl (nA (pwS Tp tn true v).1.2.2.2.2.2.1))), (qw, .inl (cI, 6, .inl (nA (pwS Tp tn true v).1.2.2.2.2.2.2))), (qs, .inl (cI, 6, .inl sf))] := hD.sub [4, 5, 0, 1, 2, 3] (by decide) rfl
  refine lv_bipush (v := (nI 44)) hx hb dX2_parseGroup_28 (by decide) ?_
  refine lv_icmp_eq (tgt := 36) hx hb dX2_parseGroup_30 (by decide) (fun c30 => ?_) (fun c30 => ?_)
  · skip
    have hlt : skq Tp tn (pwS Tp tn true v).1.1 < tn := Decidable.byContradiction (fun z => by rw [lkI_f z] at c30; exact absurd c30 (by decide))
    refine lv_aload_n hx hb dX2_parseGroup_36 rfl (lv_at hl 2 rfl) ?_
    refine lv_dup hx hb dX2_parseGroup_37 rfl ?_
    refine va_get (D := (dC, dI)) (ci := 2) (v := .int (nI (skq Tp tn ((pwS Tp tn true v).1.1)))) (C := RX2) (T := TX2) (N := 4) hx hb hts hiX2 hown hK hP 0 rfl rfl 2 (by decide) (hts (.fieldLink RX2 26 "RestRegisters$Tape" "place" "I") (by decide +kernel)) (fun _ h9 => h9) rfl dX2_parseGroup_38 ?_
    refine lv_iconst (v := (nI 1)) hx hb dX2_parseGroup_41 (by decide) ?_
    refine rn_iadd hx hb dX2_parseGroup_42 ?_
    refine va_put (D := (dC, dI)) (ci := 2) (v := .int (nI (skq Tp tn ((pwS Tp tn true v).1.1) + 1))) (ty := .int) (C := RX2) (T := TX2) (N := 4) hx hb hts hiX2 tyX2 tyX2_ok nmX2 hown hK hP hD hS 0 rfl rfl 2 (by decide) (hts (.fieldLink RX2 26 "RestRegisters$Tape" "place" "I") (by decide +kernel)) (fun _ h9 => h9) rfl (by decide +kernel) rfl rfl (Nat.le_of_ble_eq_true rfl) dX2_parseGroup_43 (fun H locs hP hD hS => ?_)
    have hP : va_P (dC, dI) vwCl [(t0, .inr (2, [.ref ta, .int (nI tn), .int (nI (skq Tp tn ((pwS Tp tn true v).1.1) + 1)), .ref q3])), (ta, .inl (cI, 40, .inl (nA Tp))), (q3, .inr (3, [.int (nI ((pwS Tp tn true v).1.2.1)), .int (nI ((pwS Tp tn true v).1.2.2.1)), .int (nI ((pwS Tp tn true v).1.2.2.2.1)), .int (nI ((pwS Tp tn true v).1.2.2.2.2.1)), .ref qk, .ref qw, .ref qs])), (qk, .inl (cI, 6, .inl (nA (pwS Tp tn true v).1.2.2.2.2.2.1))), (qw, .inl (cI, 6, .inl (nA (pwS Tp tn true v).1.2.2.2.2.2.2))), (qs, .inl (cI, 6, .inl sf))] H := hP
    have hD : va_D A [(t0, .inr (2, [.ref ta, .int (nI tn), .int (nI (skq Tp tn ((pwS Tp tn true v).1.1) + 1)), .ref q3])), (ta, .inl (cI, 40, .inl (nA Tp))), (q3, .inr (3, [.int (nI ((pwS Tp tn true v).1.2.1)), .int (nI ((pwS Tp tn true v).1.2.2.1)), .int (nI ((pwS Tp tn true v).1.2.2.2.1)), .int (nI ((pwS Tp tn true v).1.2.2.2.2.1)), .ref qk, .ref qw, .ref qs])), (qk, .inl (cI, 6, .inl (nA (pwS Tp tn true v).1.2.2.2.2.2.1))), (qw, .inl (cI, 6, .inl (nA (pwS Tp tn true v).1.2.2.2.2.2.2))), (qs, .inl (cI, 6, .inl sf))] := hD
    refine lv_iinc (v := (nI (i + 1))) (lv' := [(3, .int (nI (i + 1))), (4, .int ((pwS Tp tn true v).2)), (0, .ref t0), (1, .int (nI 2)), (2, .int (bi true))]) hx hb dX2_parseGroup_46 hl (k := 1) rfl (rn_inc i 1) (by decide) rfl (fun ls hl => ?_)
    refine lv_goto (tgt := 2) hx hb dX2_parseGroup_49 (by decide) ?_
    exact ih2 (i + 1) (skq Tp tn (pwS Tp tn true v).1.1 + 1, (pwS Tp tn true v).1.2) _ _ ls ⟨by omega, by omega, ⟨hlt, hw.1.2⟩, hw.2.1, (by show (pwS Tp tn true v).1.2.1 + _ ≤ 6; rw [hw.2.2.1 c16]; omega), (by rw [← hE, show 2 + 1 - i = (2 - i) + 1 by omega, pgS, if_neg (by intro z; rcases z with z | z; exact z c16; omega), if_pos c30, show 2 + 1 - (i + 1) = 2 - i by omega]), hP, hD, hS, lv_sub hl [0, 2, 3, 4] rfl⟩ (by omega)
  refine lv_iload hx hb dX2_parseGroup_33 (lv_at hl 0 rfl) ?_
  have e0 : pgS Tp tn true (2 + 1 - i) v = ((skq Tp tn (pwS Tp tn true v).1.1, (pwS Tp tn true v).1.2), 0) := by rw [show 2 + 1 - i = (2 - i) + 1 by omega, pgS, if_neg (by intro z; rcases z with z | z; exact z c16; omega), if_neg c30]
  rw [← hE, e0]
  exact rr_iretW hx hb hr hlocks dX2_parseGroup_35 hP hD hS (by first | rfl | exact c16)
