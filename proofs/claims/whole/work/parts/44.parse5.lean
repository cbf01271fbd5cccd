set_option maxHeartbeats 4000000 in
set_option maxRecDepth 100000 in
theorem c_X5_set_g (l : Launch) (dC : Nat → ClassId) (dI : Nat → Nat → Nat) (cI cJ cS : ClassId) (sz : Nat) (m0 mw mt ml mz mi mr md mh : Nat) (im : Bool) (tl at0 st0 nu rm rh : Nat) (Bw Tp Rd : Nat → Nat) (ht : tpOk Tp tl) (hps : (rdL Tp tl 6 (0, st0, nu, 0, 0, Rd) false).2 = true) : Met l yX5_set wsX5_set ({ frames := 4, cells := 0, slots := 0, locals := 94 }) (va_Pc [.ref m0] (rW (dC, dI) vwCl [(m0, .inr (5, [.ref mw, .int (bi im), .ref mt, .int (nI tl), .ref ml, .ref mz, .ref mi, .ref mr, .int (nI at0), .int (nI st0), .int (nI nu), .int (nI rm), .int (nI rh), .ref md, .ref mh])), (mw, .inl (cI, 480, .inl (nA Bw))), (mt, .inl (cI, 40, .inl (nA Tp))), (md, .inl (cI, 12, .inl (nA Rd)))] (tyz cI cJ cS) sz)) (qI (nI ((rdL Tp tl 6 (0, st0, nu, 0, 0, Rd) false).1.2.2.2.1)) (dC, dI) vwCl [(m0, .inr (5, [.ref mw, .int (bi im), .ref mt, .int (nI 0), .ref ml, .ref mz, .ref mi, .ref mr, .int (nI ((rdL Tp tl 6 (0, st0, nu, 0, 0, Rd) false).1.1)), .int (nI ((rdL Tp tl 6 (0, st0, nu, 0, 0, Rd) false).1.2.1)), .int (nI ((rdL Tp tl 6 (0, st0, nu, 0, 0, Rd) false).1.2.2.1)), .int (nI ((rdL Tp tl 6 (0, st0, nu, 0, 0, Rd) false).1.2.2.2.1)), .int (nI ((rdL Tp tl 6 (0, st0, nu, 0, 0, Rd) false).1.2.2.2.2.1)), .ref md, .ref mh])), (mw, .inl (cI, 480, .inl (nA (stB Bw (rdL Tp tl 6 (0, st0, nu, 0, 0, Rd) false).1.2.2.2.1 (rdL Tp tl 6 (0, st0, nu, 0, 0, Rd) false).1.2.2.2.2.1 (rdL Tp tl 6 (0, st0, nu, 0, 0, Rd) false).1.2.2.2.2.2)))), (mt, .inl (cI, 40, .inl (nA Tp))), (md, .inl (cI, 12, .inl (nA ((rdL Tp tl 6 (0, st0, nu, 0, 0, Rd) false).1.2.2.2.2.2))))] (va_A [(m0, .inr (5, [.ref mw, .int (bi im), .ref mt, .int (nI tl), .ref ml, .ref mz, .ref mi, .ref mr, .int (nI at0), .int (nI st0), .int (nI nu), .int (nI rm), .int (nI rh), .ref md, .ref mh])), (mw, .inl (cI, 480, .inl (nA Bw))), (mt, .inl (cI, 40, .inl (nA Tp))), (md, .inl (cI, 12, .inl (nA Rd)))] sz)) 0 0 (va_A [(m0, .inr (5, [.ref mw, .int (bi im), .ref mt, .int (nI tl), .ref ml, .ref mz, .ref mi, .ref mr, .int (nI at0), .int (nI st0), .int (nI nu), .int (nI rm), .int (nI rh), .ref md, .ref mh])), (mw, .inl (cI, 480, .inl (nA Bw))), (mt, .inl (cI, 40, .inl (nA Tp))), (md, .inl (cI, 12, .inl (nA Rd)))] sz) := by
  refine Met.ofW (cc := cX5_set) (maxL := 3) (ret := (some .int)) (by decide) rfl ?_
  intro p e s m args below meth c s₁ B hml hv
  obtain ⟨rfl, hsz, hP, hKK, hD0⟩ := hv
  have hK := hKK.1
  have hx := B.exec
  have hb := B.bytes
  have hr := B.returns
  have hts := atoms_spec (ws := wsX5_set) B.pre
  have hown : s.vm.findClass RX5 = some m.cls := findClass_of_methodNamed B.named
  have hlocks := B.notSynchronized
  subst hsz
  have hD := hD0.self (sz := s.heap.size)
  generalize hAe : va_A [(m0, .inr (5, [.ref mw, .int (bi im), .ref mt, .int (nI tl), .ref ml, .ref mz, .ref mi, .ref mr, .int (nI at0), .int (nI st0), .int (nI nu), .int (nI rm), .int (nI rh), .ref md, .ref mh])), (mw, .inl (cI, 480, .inl (nA Bw))), (mt, .inl (cI, 40, .inl (nA Tp))), (md, .inl (cI, 12, .inl (nA Rd)))] s.heap.size = A at hD ⊢
  have hA : ∀ q : Nat, s.heap.size ≤ q → A q := fun q h => by rw [← hAe]; exact Or.inr h
  have hS : va_S A s.heap s.heap [] := va_S.rf
  have hP : va_P (dC, dI) vwCl [(m0, .inr (5, [.ref mw, .int (bi im), .ref mt, .int (nI tl), .ref ml, .ref mz, .ref mi, .ref mr, .int (nI at0), .int (nI st0), .int (nI nu), .int (nI rm), .int (nI rh), .ref md, .ref mh])), (mw, .inl (cI, 480, .inl (nA Bw))), (mt, .inl (cI, 40, .inl (nA Tp))), (md, .inl (cI, 12, .inl (nA Rd)))] s.heap := hP
  have hiX5 : ∀ w ∈ wsX50, w ∈ wsX5_set := by decide +kernel
  have hl := lv_entry ([.ref m0]) (n := 3) (Nat.le_of_ble_eq_true rfl)
  rw [lg_entry_eq]
  generalize (lg_sl ([.ref m0]) ++ List.replicate (3 - (lg_sl ([.ref m0])).length) Slot.unset).toArray = ls at hl ⊢
  have hl : lv_has ls 3 [(0, .ref m0)] := hl
  have h40 := ht.1
  have hk6 := (rdL_ok6 (nu := nu) (st0 := st0) (R := Rd) ht)
  refine lv_aload_n hx hb dX5_set_0 rfl (lv_at hl 0 rfl) ?_
  refine rw_calli (va_runV (As := []) (rest := []) ⟨hx, hb, hml, hown, hts⟩ (c_X5_readsAll l dC dI cI cJ cS _ m0 mw mt ml mz mi mr md mh im tl at0 st0 nu rm rh Tp Rd (by first | assumption | omega)) (cwV 0 hts gX5_set_X5_readsAll rfl rfl rfl (by decide +kernel) ⟨Nat.le_of_ble_eq_true rfl, Nat.le_of_ble_eq_true rfl⟩) (rw_preV hKK (hP.sub [0, 2, 3] rfl) (hD.sub [0, 2, 3] (by decide) rfl) rfl rfl) rfl rfl hl.1 rfl (lv_room (Nat.le_of_ble_eq_true rfl)) dX5_set_1 ⟨Nat.zero_le _, Nat.zero_le _⟩) (wr := [(mw, .inl (cI, 480, .inl (nA Bw)))]) hP hD hS hA [0, 2, 3] [1] rfl rfl (by decide) (by decide) (fun H locs hP hD hS => ?_)
  have hP : va_P (dC, dI) vwCl [(m0, .inr (5, [.ref mw, .int (bi im), .ref mt, .int (nI tl), .ref ml, .ref mz, .ref mi, .ref mr, .int (nI ((rdL Tp tl 6 (0, st0, nu, 0, 0, Rd) false).1.1)), .int (nI ((rdL Tp tl 6 (0, st0, nu, 0, 0, Rd) false).1.2.1)), .int (nI ((rdL Tp tl 6 (0, st0, nu, 0, 0, Rd) false).1.2.2.1)), .int (nI ((rdL Tp tl 6 (0, st0, nu, 0, 0, Rd) false).1.2.2.2.1)), .int (nI ((rdL Tp tl 6 (0, st0, nu, 0, 0, Rd) false).1.2.2.2.2.1)), .ref md, .ref mh])), (mw, .inl (cI, 480, .inl (nA Bw))), (mt, .inl (cI, 40, .inl (nA Tp))), (md, .inl (cI, 12, .inl (nA ((rdL Tp tl 6 (0, st0, nu, 0, 0, Rd) false).1.2.2.2.2.2))))] H := hP.sub [1, 0, 2, 3] rfl
  have hD : va_D A [(m0, .inr (5, [.ref mw, .int (bi im), .ref mt, .int (nI tl), .ref ml, .ref mz, .ref mi, .ref mr, .int (nI ((rdL Tp tl 6 (0, st0, nu, 0, 0, Rd) false).1.1)), .int (nI ((rdL Tp tl 6 (0, st0, nu, 0, 0, Rd) false).1.2.1)), .int (nI ((rdL Tp tl 6 (0, st0, nu, 0, 0, Rd) false).1.2.2.1)), .int (nI ((rdL Tp tl 6 (0, st0, nu, 0, 0, Rd) false).1.2.2.2.1)), .int (nI ((rdL Tp tl 6 (0, st0, nu, 0, 0, Rd) false).1.2.2.2.2.1)), .ref md, .ref mh])), (mw, .inl (cI, 480, .inl (nA Bw))), (mt, .inl (cI, 40, .inl (nA Tp))), (md, .inl (cI, 12, .inl (nA ((rdL Tp tl 6 (0, st0, nu, 0, 0, Rd) false).1.2.2.2.2.2))))] := hD.sub [1, 0, 2, 3] (by decide) rfl
  generalize eu : (rdL Tp tl 6 (0, st0, nu, 0, 0, Rd) false) = z at hP hD hps hk6 ⊢
  have hP : va_P (dC, dI) vwCl [(m0, .inr (5, [.ref mw, .int (bi im), .ref mt, .int (nI tl), .ref ml, .ref mz, .ref mi, .ref mr, .int (nI z.1.1), .int (nI z.1.2.1), .int (nI z.1.2.2.1), .int (nI z.1.2.2.2.1), .int (nI z.1.2.2.2.2.1), .ref md, .ref mh])), (mw, .inl (cI, 480, .inl (nA Bw))), (mt, .inl (cI, 40, .inl (nA Tp))), (md, .inl (cI, 12, .inl (nA z.1.2.2.2.2.2)))] H := hP
  have hD : va_D A [(m0, .inr (5, [.ref mw, .int (bi im), .ref mt, .int (nI tl), .ref ml, .ref mz, .ref mi, .ref mr, .int (nI z.1.1), .int (nI z.1.2.1), .int (nI z.1.2.2.1), .int (nI z.1.2.2.2.1), .int (nI z.1.2.2.2.2.1), .ref md, .ref mh])), (mw, .inl (cI, 480, .inl (nA Bw))), (mt, .inl (cI, 40, .inl (nA Tp))), (md, .inl (cI, 12, .inl (nA z.1.2.2.2.2.2)))] := hD
  have hz6 : z.1.2.2.2.1 ≤ 6 := hk6.1.2.1
  refine lv_istore_n (lv' := [(1, .int (bi z.2)), (0, .ref m0)]) hx hb dX5_set_4 rfl hl (by decide) rfl (fun ls hl => ?_)
  refine lv_aload_n hx hb dX5_set_5 rfl (lv_at hl 1 rfl) ?_
  refine lv_iconst (v := (nI 0)) hx hb dX5_set_6 (by decide) ?_
  refine va_put (D := (dC, dI)) (ci := 5) (v := .int (nI 0)) (ty := .int) (C := RX5) (T := TX5) (N := 15) hx hb hts hiX5 tyX5 tyX5_ok nmX5 hown hK hP hD hS 0 rfl rfl 3 (by decide) (hts (.fieldLink RX5 77 "RestRegistersModel" "taped" "I") (by decide +kernel)) (fun _ h9 => h9) rfl (by decide +kernel) rfl rfl (Nat.le_of_ble_eq_true rfl) dX5_set_7 (fun H locs hP hD hS => ?_)
  have hP : va_P (dC, dI) vwCl [(m0, .inr (5, [.ref mw, .int (bi im), .ref mt, .int (nI 0), .ref ml, .ref mz, .ref mi, .ref mr, .int (nI z.1.1), .int (nI z.1.2.1), .int (nI z.1.2.2.1), .int (nI z.1.2.2.2.1), .int (nI z.1.2.2.2.2.1), .ref md, .ref mh])), (mw, .inl (cI, 480, .inl (nA Bw))), (mt, .inl (cI, 40, .inl (nA Tp))), (md, .inl (cI, 12, .inl (nA z.1.2.2.2.2.2)))] H := hP
  have hD : va_D A [(m0, .inr (5, [.ref mw, .int (bi im), .ref mt, .int (nI 0), .ref ml, .ref mz, .ref mi, .ref mr, .int (nI z.1.1), .int (nI z.1.2.1), .int (nI z.1.2.2.1), .int (nI z.1.2.2.2.1), .int (nI z.1.2.2.2.2.1), .ref md, .ref mh])), (mw, .inl (cI, 480, .inl (nA Bw))), (mt, .inl (cI, 40, .inl (nA Tp))), (md, .inl (cI, 12, .inl (nA z.1.2.2.2.2.2)))] := hD
  refine lv_iload_n hx hb dX5_set_10 rfl (lv_at hl 0 rfl) ?_
  refine rb_if_ne (tgt := 22) hx hb dX5_set_11 (by decide) (fun c11 => ?_) (fun c11 => ?_)
  · skip
    refine lv_aload_n hx hb dX5_set_22 rfl (lv_at hl 1 rfl) ?_
    refine va_get (D := (dC, dI)) (ci := 5) (v := .ref mw) (C := RX5) (T := TX5) (N := 15) hx hb hts hiX5 hown hK hP 0 rfl rfl 0 (by decide) (hts (.fieldLink RX5 7 "RestRegistersModel" "w" "[I") (by decide +kernel)) (fun _ h9 => h9) rfl dX5_set_23 ?_
    refine lv_iconst (v := (nI 0)) hx hb dX5_set_26 (by decide) ?_
    refine lv_aload_n hx hb dX5_set_27 rfl (lv_at hl 1 rfl) ?_
    refine va_get (D := (dC, dI)) (ci := 5) (v := .int (nI z.1.2.2.2.1)) (C := RX5) (T := TX5) (N := 15) hx hb hts hiX5 hown hK hP 0 rfl rfl 11 (by decide) (hts (.fieldLink RX5 91 "RestRegistersModel" "readMany" "I") (by decide +kernel)) (fun _ h9 => h9) rfl dX5_set_28 ?_
    refine rn_iast hx hb hK hP hD hS 1 0 rfl rfl (i := 0) (by omega) (by decide) (g := nA (uN Bw 0 z.1.2.2.2.1)) (nA_upd _ _ _) dX5_set_31 (fun H locs hP hD hS => ?_)
    have hP : va_P (dC, dI) vwCl [(m0, .inr (5, [.ref mw, .int (bi im), .ref mt, .int (nI 0), .ref ml, .ref mz, .ref mi, .ref mr, .int (nI z.1.1), .int (nI z.1.2.1), .int (nI z.1.2.2.1), .int (nI z.1.2.2.2.1), .int (nI z.1.2.2.2.2.1), .ref md, .ref mh])), (mw, .inl (cI, 480, .inl (nA (uN Bw 0 z.1.2.2.2.1)))), (mt, .inl (cI, 40, .inl (nA Tp))), (md, .inl (cI, 12, .inl (nA z.1.2.2.2.2.2)))] H := hP
    have hD : va_D A [(m0, .inr (5, [.ref mw, .int (bi im), .ref mt, .int (nI 0), .ref ml, .ref mz, .ref mi, .ref mr, .int (nI z.1.1), .int (nI z.1.2.1), .int (nI z.1.2.2.1), .int (nI z.1.2.2.2.1), .int (nI z.1.2.2.2.2.1), .ref md, .ref mh])), (mw, .inl (cI, 480, .inl (nA (uN Bw 0 z.1.2.2.2.1)))), (mt, .inl (cI, 40, .inl (nA Tp))), (md, .inl (cI, 12, .inl (nA z.1.2.2.2.2.2)))] := hD
    refine lv_aload_n hx hb dX5_set_32 rfl (lv_at hl 1 rfl) ?_
    refine va_get (D := (dC, dI)) (ci := 5) (v := .ref mw) (C := RX5) (T := TX5) (N := 15) hx hb hts hiX5 hown hK hP 0 rfl rfl 0 (by decide) (hts (.fieldLink RX5 7 "RestRegistersModel" "w" "[I") (by decide +kernel)) (fun _ h9 => h9) rfl dX5_set_33 ?_
    refine lv_iconst (v := (nI 1)) hx hb dX5_set_36 (by decide) ?_
    refine lv_aload_n hx hb dX5_set_37 rfl (lv_at hl 1 rfl) ?_
    refine va_get (D := (dC, dI)) (ci := 5) (v := .int (nI z.1.2.2.2.2.1)) (C := RX5) (T := TX5) (N := 15) hx hb hts hiX5 hown hK hP 0 rfl rfl 12 (by decide) (hts (.fieldLink RX5 118 "RestRegistersModel" "readHonest" "I") (by decide +kernel)) (fun _ h9 => h9) rfl dX5_set_38 ?_
    refine rn_iast hx hb hK hP hD hS 1 0 rfl rfl (i := 1) (by omega) (by decide) (g := nA (uN (uN Bw 0 z.1.2.2.2.1) 1 z.1.2.2.2.2.1)) (nA_upd _ _ _) dX5_set_41 (fun H locs hP hD hS => ?_)
    have hP : va_P (dC, dI) vwCl [(m0, .inr (5, [.ref mw, .int (bi im), .ref mt, .int (nI 0), .ref ml, .ref mz, .ref mi, .ref mr, .int (nI z.1.1), .int (nI z.1.2.1), .int (nI z.1.2.2.1), .int (nI z.1.2.2.2.1), .int (nI z.1.2.2.2.2.1), .ref md, .ref mh])), (mw, .inl (cI, 480, .inl (nA (uN (uN Bw 0 z.1.2.2.2.1) 1 z.1.2.2.2.2.1)))), (mt, .inl (cI, 40, .inl (nA Tp))), (md, .inl (cI, 12, .inl (nA z.1.2.2.2.2.2)))] H := hP
    have hD : va_D A [(m0, .inr (5, [.ref mw, .int (bi im), .ref mt, .int (nI 0), .ref ml, .ref mz, .ref mi, .ref mr, .int (nI z.1.1), .int (nI z.1.2.1), .int (nI z.1.2.2.1), .int (nI z.1.2.2.2.1), .int (nI z.1.2.2.2.2.1), .ref md, .ref mh])), (mw, .inl (cI, 480, .inl (nA (uN (uN Bw 0 z.1.2.2.2.1) 1 z.1.2.2.2.2.1)))), (mt, .inl (cI, 40, .inl (nA Tp))), (md, .inl (cI, 12, .inl (nA z.1.2.2.2.2.2)))] := hD
    refine lv_iconst (v := (nI 0)) hx hb dX5_set_42 (by decide) ?_
    refine lv_istore_n (lv' := [(2, .int (nI 0)), (1, .int (bi z.2)), (0, .ref m0)]) hx hb dX5_set_43 rfl hl (by decide) rfl (fun ls hl => ?_)
    have ec : nA (uN (uN Bw 0 z.1.2.2.2.1) 1 z.1.2.2.2.2.1) = nA (stK (uN (uN Bw 0 z.1.2.2.2.1) 1 z.1.2.2.2.2.1) z.1.2.2.2.2.2 0) := stK_0 _ _
    rw [ec] at hP hD
    have hP : va_P (dC, dI) vwCl [(m0, .inr (5, [.ref mw, .int (bi im), .ref mt, .int (nI 0), .ref ml, .ref mz, .ref mi, .ref mr, .int (nI z.1.1), .int (nI z.1.2.1), .int (nI z.1.2.2.1), .int (nI z.1.2.2.2.1), .int (nI z.1.2.2.2.2.1), .ref md, .ref mh])), (mw, .inl (cI, 480, .inl (nA (stK (uN (uN Bw 0 z.1.2.2.2.1) 1 z.1.2.2.2.2.1) z.1.2.2.2.2.2 0)))), (mt, .inl (cI, 40, .inl (nA Tp))), (md, .inl (cI, 12, .inl (nA z.1.2.2.2.2.2)))] H := hP
    have hD : va_D A [(m0, .inr (5, [.ref mw, .int (bi im), .ref mt, .int (nI 0), .ref ml, .ref mz, .ref mi, .ref mr, .int (nI z.1.1), .int (nI z.1.2.1), .int (nI z.1.2.2.1), .int (nI z.1.2.2.2.1), .int (nI z.1.2.2.2.2.1), .ref md, .ref mh])), (mw, .inl (cI, 480, .inl (nA (stK (uN (uN Bw 0 z.1.2.2.2.1) 1 z.1.2.2.2.2.1) z.1.2.2.2.2.2 0)))), (mt, .inl (cI, 40, .inl (nA Tp))), (md, .inl (cI, 12, .inl (nA z.1.2.2.2.2.2)))] := hD
    refine rlW1 (A1 := Nat) (fun H locs ls => W p l e _ s m _ below meth c H locs 0 0 _ (F0 m 44 ls [])) (fun k H locs ls => k ≤ z.1.2.2.2.1 ∧ va_P (dC, dI) vwCl [(m0, .inr (5, [.ref mw, .int (bi im), .ref mt, .int (nI 0), .ref ml, .ref mz, .ref mi, .ref mr, .int (nI z.1.1), .int (nI z.1.2.1), .int (nI z.1.2.2.1), .int (nI z.1.2.2.2.1), .int (nI z.1.2.2.2.2.1), .ref md, .ref mh])), (mw, .inl (cI, 480, .inl (nA (stK (uN (uN Bw 0 z.1.2.2.2.1) 1 z.1.2.2.2.2.1) z.1.2.2.2.2.2 k)))), (mt, .inl (cI, 40, .inl (nA Tp))), (md, .inl (cI, 12, .inl (nA z.1.2.2.2.2.2)))] H ∧ va_D A [(m0, .inr (5, [.ref mw, .int (bi im), .ref mt, .int (nI 0), .ref ml, .ref mz, .ref mi, .ref mr, .int (nI z.1.1), .int (nI z.1.2.1), .int (nI z.1.2.2.1), .int (nI z.1.2.2.2.1), .int (nI z.1.2.2.2.2.1), .ref md, .ref mh])), (mw, .inl (cI, 480, .inl (nA (stK (uN (uN Bw 0 z.1.2.2.2.1) 1 z.1.2.2.2.2.1) z.1.2.2.2.2.2 k)))), (mt, .inl (cI, 40, .inl (nA Tp))), (md, .inl (cI, 12, .inl (nA z.1.2.2.2.2.2)))] ∧ va_S A s.heap H locs ∧ lv_has ls 3 [(2, .int (nI k)), (1, .int (bi z.2)), (0, .ref m0)]) (fun k => z.1.2.2.2.1 - k) ?_ 0 H locs ls ⟨by omega, hP, hD, hS, lv_sub hl [0, 1, 2] rfl⟩
    rintro k H locs ls ⟨hi, hP, hD, hS, hl⟩ ih44
    refine lv_iload_n hx hb dX5_set_44 rfl (lv_at hl 0 rfl) ?_
    refine lv_aload_n hx hb dX5_set_45 rfl (lv_at hl 2 rfl) ?_
    refine va_get (D := (dC, dI)) (ci := 5) (v := .int (nI z.1.2.2.2.1)) (C := RX5) (T := TX5) (N := 15) hx hb hts hiX5 hown hK hP 0 rfl rfl 11 (by decide) (hts (.fieldLink RX5 91 "RestRegistersModel" "readMany" "I") (by decide +kernel)) (fun _ h9 => h9) rfl dX5_set_46 ?_
    refine rn_icmp_ge (tgt := 93) hx hb dX5_set_49 (by decide) (by omega) (by omega) (fun c49 => ?_) (fun c49 => ?_)
    · skip
      have ek : k = z.1.2.2.2.1 := Nat.le_antisymm hi c49
      rw [ek] at hP hD
      have hP : va_P (dC, dI) vwCl [(m0, .inr (5, [.ref mw, .int (bi im), .ref mt, .int (nI 0), .ref ml, .ref mz, .ref mi, .ref mr, .int (nI z.1.1), .int (nI z.1.2.1), .int (nI z.1.2.2.1), .int (nI z.1.2.2.2.1), .int (nI z.1.2.2.2.2.1), .ref md, .ref mh])), (mw, .inl (cI, 480, .inl (nA (stK (uN (uN Bw 0 z.1.2.2.2.1) 1 z.1.2.2.2.2.1) z.1.2.2.2.2.2 z.1.2.2.2.1)))), (mt, .inl (cI, 40, .inl (nA Tp))), (md, .inl (cI, 12, .inl (nA z.1.2.2.2.2.2)))] H := hP
      have hD : va_D A [(m0, .inr (5, [.ref mw, .int (bi im), .ref mt, .int (nI 0), .ref ml, .ref mz, .ref mi, .ref mr, .int (nI z.1.1), .int (nI z.1.2.1), .int (nI z.1.2.2.1), .int (nI z.1.2.2.2.1), .int (nI z.1.2.2.2.2.1), .ref md, .ref mh])), (mw, .inl (cI, 480, .inl (nA (stK (uN (uN Bw 0 z.1.2.2.2.1) 1 z.1.2.2.2.2.1) z.1.2.2.2.2.2 z.1.2.2.2.1)))), (mt, .inl (cI, 40, .inl (nA Tp))), (md, .inl (cI, 12, .inl (nA z.1.2.2.2.2.2)))] := hD
      refine lv_iconst (v := (nI 0)) hx hb dX5_set_93 (by decide) ?_
      refine lv_istore_n (lv' := [(2, .int (nI 0)), (1, .int (bi z.2)), (0, .ref m0)]) hx hb dX5_set_94 rfl hl (by decide) rfl (fun ls hl => ?_)
      have ec : nA (stK (uN (uN Bw 0 z.1.2.2.2.1) 1 z.1.2.2.2.2.1) z.1.2.2.2.2.2 z.1.2.2.2.1) = nA (stZ (stK (uN (uN Bw 0 z.1.2.2.2.1) 1 z.1.2.2.2.2.1) z.1.2.2.2.2.2 z.1.2.2.2.1) 0) := stZ_0 _
      rw [ec] at hP hD
      have hP : va_P (dC, dI) vwCl [(m0, .inr (5, [.ref mw, .int (bi im), .ref mt, .int (nI 0), .ref ml, .ref mz, .ref mi, .ref mr, .int (nI z.1.1), .int (nI z.1.2.1), .int (nI z.1.2.2.1), .int (nI z.1.2.2.2.1), .int (nI z.1.2.2.2.2.1), .ref md, .ref mh])), (mw, .inl (cI, 480, .inl (nA (stZ (stK (uN (uN Bw 0 z.1.2.2.2.1) 1 z.1.2.2.2.2.1) z.1.2.2.2.2.2 z.1.2.2.2.1) 0)))), (mt, .inl (cI, 40, .inl (nA Tp))), (md, .inl (cI, 12, .inl (nA z.1.2.2.2.2.2)))] H := hP
      have hD : va_D A [(m0, .inr (5, [.ref mw, .int (bi im), .ref mt, .int (nI 0), .ref ml, .ref mz, .ref mi, .ref mr, .int (nI z.1.1), .int (nI z.1.2.1), .int (nI z.1.2.2.1), .int (nI z.1.2.2.2.1), .int (nI z.1.2.2.2.2.1), .ref md, .ref mh])), (mw, .inl (cI, 480, .inl (nA (stZ (stK (uN (uN Bw 0 z.1.2.2.2.1) 1 z.1.2.2.2.2.1) z.1.2.2.2.2.2 z.1.2.2.2.1) 0)))), (mt, .inl (cI, 40, .inl (nA Tp))), (md, .inl (cI, 12, .inl (nA z.1.2.2.2.2.2)))] := hD
      refine rlW1 (A1 := Nat) (fun H locs ls => W p l e _ s m _ below meth c H locs 0 0 _ (F0 m 95 ls [])) (fun j H locs ls => j ≤ 24 ∧ va_P (dC, dI) vwCl [(m0, .inr (5, [.ref mw, .int (bi im), .ref mt, .int (nI 0), .ref ml, .ref mz, .ref mi, .ref mr, .int (nI z.1.1), .int (nI z.1.2.1), .int (nI z.1.2.2.1), .int (nI z.1.2.2.2.1), .int (nI z.1.2.2.2.2.1), .ref md, .ref mh])), (mw, .inl (cI, 480, .inl (nA (stZ (stK (uN (uN Bw 0 z.1.2.2.2.1) 1 z.1.2.2.2.2.1) z.1.2.2.2.2.2 z.1.2.2.2.1) j)))), (mt, .inl (cI, 40, .inl (nA Tp))), (md, .inl (cI, 12, .inl (nA z.1.2.2.2.2.2)))] H ∧ va_D A [(m0, .inr (5, [.ref mw, .int (bi im), .ref mt, .int (nI 0), .ref ml, .ref mz, .ref mi, .ref mr, .int (nI z.1.1), .int (nI z.1.2.1), .int (nI z.1.2.2.1), .int (nI z.1.2.2.2.1), .int (nI z.1.2.2.2.2.1), .ref md, .ref mh])), (mw, .inl (cI, 480, .inl (nA (stZ (stK (uN (uN Bw 0 z.1.2.2.2.1) 1 z.1.2.2.2.2.1) z.1.2.2.2.2.2 z.1.2.2.2.1) j)))), (mt, .inl (cI, 40, .inl (nA Tp))), (md, .inl (cI, 12, .inl (nA z.1.2.2.2.2.2)))] ∧ va_S A s.heap H locs ∧ lv_has ls 3 [(2, .int (nI j)), (1, .int (bi z.2)), (0, .ref m0)]) (fun j => 24 - j) ?_ 0 H locs ls ⟨by omega, hP, hD, hS, lv_sub hl [0, 1, 2] rfl⟩
      rintro j H locs ls ⟨hj, hP, hD, hS, hl⟩ ih95
      refine lv_iload_n hx hb dX5_set_95 rfl (lv_at hl 0 rfl) ?_
      refine lv_bipush (v := (nI 24)) hx hb dX5_set_96 (by decide) ?_
      refine rn_icmp_ge (tgt := 117) hx hb dX5_set_98 (by decide) (by omega) (by omega) (fun c98 => ?_) (fun c98 => ?_)
      · skip
        have ej : j = 24 := Nat.le_antisymm hj c98
        subst ej
        have hP : va_P (dC, dI) vwCl [(m0, .inr (5, [.ref mw, .int (bi im), .ref mt, .int (nI 0), .ref ml, .ref mz, .ref mi, .ref mr, .int (nI z.1.1), .int (nI z.1.2.1), .int (nI z.1.2.2.1), .int (nI z.1.2.2.2.1), .int (nI z.1.2.2.2.2.1), .ref md, .ref mh])), (mw, .inl (cI, 480, .inl (nA (stZ (stK (uN (uN Bw 0 z.1.2.2.2.1) 1 z.1.2.2.2.2.1) z.1.2.2.2.2.2 z.1.2.2.2.1) 24)))), (mt, .inl (cI, 40, .inl (nA Tp))), (md, .inl (cI, 12, .inl (nA z.1.2.2.2.2.2)))] H := hP
        have hD : va_D A [(m0, .inr (5, [.ref mw, .int (bi im), .ref mt, .int (nI 0), .ref ml, .ref mz, .ref mi, .ref mr, .int (nI z.1.1), .int (nI z.1.2.1), .int (nI z.1.2.2.1), .int (nI z.1.2.2.2.1), .int (nI z.1.2.2.2.2.1), .ref md, .ref mh])), (mw, .inl (cI, 480, .inl (nA (stZ (stK (uN (uN Bw 0 z.1.2.2.2.1) 1 z.1.2.2.2.2.1) z.1.2.2.2.2.2 z.1.2.2.2.1) 24)))), (mt, .inl (cI, 40, .inl (nA Tp))), (md, .inl (cI, 12, .inl (nA z.1.2.2.2.2.2)))] := hD
        refine lv_aload_n hx hb dX5_set_117 rfl (lv_at hl 2 rfl) ?_
        refine va_get (D := (dC, dI)) (ci := 5) (v := .ref mw) (C := RX5) (T := TX5) (N := 15) hx hb hts hiX5 hown hK hP 0 rfl rfl 0 (by decide) (hts (.fieldLink RX5 7 "RestRegistersModel" "w" "[I") (by decide +kernel)) (fun _ h9 => h9) rfl dX5_set_118 ?_
        refine lv_bipush (v := (nI 39)) hx hb dX5_set_121 (by decide) ?_
        refine lv_iconst (v := (nI 0)) hx hb dX5_set_123 (by decide) ?_
        refine rn_iast hx hb hK hP hD hS 1 0 rfl rfl (i := 39) (by omega) (by decide) (g := nA (uN (stZ (stK (uN (uN Bw 0 z.1.2.2.2.1) 1 z.1.2.2.2.2.1) z.1.2.2.2.2.2 z.1.2.2.2.1) 24) 39 0)) (nA_upd _ _ _) dX5_set_124 (fun H locs hP hD hS => ?_)
        have hP : va_P (dC, dI) vwCl [(m0, .inr (5, [.ref mw, .int (bi im), .ref mt, .int (nI 0), .ref ml, .ref mz, .ref mi, .ref mr, .int (nI z.1.1), .int (nI z.1.2.1), .int (nI z.1.2.2.1), .int (nI z.1.2.2.2.1), .int (nI z.1.2.2.2.2.1), .ref md, .ref mh])), (mw, .inl (cI, 480, .inl (nA (uN (stZ (stK (uN (uN Bw 0 z.1.2.2.2.1) 1 z.1.2.2.2.2.1) z.1.2.2.2.2.2 z.1.2.2.2.1) 24) 39 0)))), (mt, .inl (cI, 40, .inl (nA Tp))), (md, .inl (cI, 12, .inl (nA z.1.2.2.2.2.2)))] H := hP
        have hD : va_D A [(m0, .inr (5, [.ref mw, .int (bi im), .ref mt, .int (nI 0), .ref ml, .ref mz, .ref mi, .ref mr, .int (nI z.1.1), .int (nI z.1.2.1), .int (nI z.1.2.2.1), .int (nI z.1.2.2.2.1), .int (nI z.1.2.2.2.2.1), .ref md, .ref mh])), (mw, .inl (cI, 480, .inl (nA (uN (stZ (stK (uN (uN Bw 0 z.1.2.2.2.1) 1 z.1.2.2.2.2.1) z.1.2.2.2.2.2 z.1.2.2.2.1) 24) 39 0)))), (mt, .inl (cI, 40, .inl (nA Tp))), (md, .inl (cI, 12, .inl (nA z.1.2.2.2.2.2)))] := hD
        refine lv_aload_n hx hb dX5_set_125 rfl (lv_at hl 2 rfl) ?_
        refine va_get (D := (dC, dI)) (ci := 5) (v := .int (nI z.1.2.2.2.1)) (C := RX5) (T := TX5) (N := 15) hx hb hts hiX5 hown hK hP 0 rfl rfl 11 (by decide) (hts (.fieldLink RX5 91 "RestRegistersModel" "readMany" "I") (by decide +kernel)) (fun _ h9 => h9) rfl dX5_set_126 ?_
        exact rr_iretW hx hb hr hlocks dX5_set_129 hP hD hS (rfl)
      refine lv_aload_n hx hb dX5_set_101 rfl (lv_at hl 2 rfl) ?_
      refine va_get (D := (dC, dI)) (ci := 5) (v := .ref mw) (C := RX5) (T := TX5) (N := 15) hx hb hts hiX5 hown hK hP 0 rfl rfl 0 (by decide) (hts (.fieldLink RX5 7 "RestRegistersModel" "w" "[I") (by decide +kernel)) (fun _ h9 => h9) rfl dX5_set_102 ?_
      refine lv_bipush (v := (nI 15)) hx hb dX5_set_105 (by decide) ?_
      refine lv_iload_n hx hb dX5_set_107 rfl (lv_at hl 0 rfl) ?_
      refine rn_iadd hx hb dX5_set_108 ?_
      refine lv_iconst (v := (nI 0)) hx hb dX5_set_109 (by decide) ?_
      refine rn_iast hx hb hK hP hD hS 1 0 rfl rfl (i := 15 + j) (by omega) (by decide) (g := nA (uN (stZ (stK (uN (uN Bw 0 z.1.2.2.2.1) 1 z.1.2.2.2.2.1) z.1.2.2.2.2.2 z.1.2.2.2.1) j) (15 + j) 0)) (nA_upd _ _ _) dX5_set_110 (fun H locs hP hD hS => ?_)
      have hP : va_P (dC, dI) vwCl [(m0, .inr (5, [.ref mw, .int (bi im), .ref mt, .int (nI 0), .ref ml, .ref mz, .ref mi, .ref mr, .int (nI z.1.1), .int (nI z.1.2.1), .int (nI z.1.2.2.1), .int (nI z.1.2.2.2.1), .int (nI z.1.2.2.2.2.1), .ref md, .ref mh])), (mw, .inl (cI, 480, .inl (nA (uN (stZ (stK (uN (uN Bw 0 z.1.2.2.2.1) 1 z.1.2.2.2.2.1) z.1.2.2.2.2.2 z.1.2.2.2.1) j) (15 + j) 0)))), (mt, .inl (cI, 40, .inl (nA Tp))), (md, .inl (cI, 12, .inl (nA z.1.2.2.2.2.2)))] H := hP
      have hD : va_D A [(m0, .inr (5, [.ref mw, .int (bi im), .ref mt, .int (nI 0), .ref ml, .ref mz, .ref mi, .ref mr, .int (nI z.1.1), .int (nI z.1.2.1), .int (nI z.1.2.2.1), .int (nI z.1.2.2.2.1), .int (nI z.1.2.2.2.2.1), .ref md, .ref mh])), (mw, .inl (cI, 480, .inl (nA (uN (stZ (stK (uN (uN Bw 0 z.1.2.2.2.1) 1 z.1.2.2.2.2.1) z.1.2.2.2.2.2 z.1.2.2.2.1) j) (15 + j) 0)))), (mt, .inl (cI, 40, .inl (nA Tp))), (md, .inl (cI, 12, .inl (nA z.1.2.2.2.2.2)))] := hD
      have ec : nA (uN (stZ (stK (uN (uN Bw 0 z.1.2.2.2.1) 1 z.1.2.2.2.2.1) z.1.2.2.2.2.2 z.1.2.2.2.1) j) (15 + j) 0) = nA (stZ (stK (uN (uN Bw 0 z.1.2.2.2.1) 1 z.1.2.2.2.2.1) z.1.2.2.2.2.2 z.1.2.2.2.1) (j + 1)) := stZ_s _ _
      rw [ec] at hP hD
      have hP : va_P (dC, dI) vwCl [(m0, .inr (5, [.ref mw, .int (bi im), .ref mt, .int (nI 0), .ref ml, .ref mz, .ref mi, .ref mr, .int (nI z.1.1), .int (nI z.1.2.1), .int (nI z.1.2.2.1), .int (nI z.1.2.2.2.1), .int (nI z.1.2.2.2.2.1), .ref md, .ref mh])), (mw, .inl (cI, 480, .inl (nA (stZ (stK (uN (uN Bw 0 z.1.2.2.2.1) 1 z.1.2.2.2.2.1) z.1.2.2.2.2.2 z.1.2.2.2.1) (j + 1))))), (mt, .inl (cI, 40, .inl (nA Tp))), (md, .inl (cI, 12, .inl (nA z.1.2.2.2.2.2)))] H := hP
      have hD : va_D A [(m0, .inr (5, [.ref mw, .int (bi im), .ref mt, .int (nI 0), .ref ml, .ref mz, .ref mi, .ref mr, .int (nI z.1.1), .int (nI z.1.2.1), .int (nI z.1.2.2.1), .int (nI z.1.2.2.2.1), .int (nI z.1.2.2.2.2.1), .ref md, .ref mh])), (mw, .inl (cI, 480, .inl (nA (stZ (stK (uN (uN Bw 0 z.1.2.2.2.1) 1 z.1.2.2.2.2.1) z.1.2.2.2.2.2 z.1.2.2.2.1) (j + 1))))), (mt, .inl (cI, 40, .inl (nA Tp))), (md, .inl (cI, 12, .inl (nA z.1.2.2.2.2.2)))] := hD
      refine lv_iinc (v := (nI (j + 1))) (lv' := [(2, .int (nI (j + 1))), (1, .int (bi z.2)), (0, .ref m0)]) hx hb dX5_set_111 hl (k := 0) rfl (rn_inc j 1) (by decide) rfl (fun ls hl => ?_)
      refine lv_goto (tgt := 95) hx hb dX5_set_114 (by decide) ?_
      exact ih95 (j + 1) _ _ ls ⟨by omega, hP, hD, hS, lv_sub hl [0, 1, 2] rfl⟩ (by omega)
    refine lv_aload_n hx hb dX5_set_52 rfl (lv_at hl 2 rfl) ?_
    refine va_get (D := (dC, dI)) (ci := 5) (v := .ref mw) (C := RX5) (T := TX5) (N := 15) hx hb hts hiX5 hown hK hP 0 rfl rfl 0 (by decide) (hts (.fieldLink RX5 7 "RestRegistersModel" "w" "[I") (by decide +kernel)) (fun _ h9 => h9) rfl dX5_set_53 ?_
    refine lv_iconst (v := (nI 2)) hx hb dX5_set_56 (by decide) ?_
    refine lv_iload_n hx hb dX5_set_57 rfl (lv_at hl 0 rfl) ?_
    refine rn_iadd hx hb dX5_set_58 ?_
    refine lv_aload_n hx hb dX5_set_59 rfl (lv_at hl 2 rfl) ?_
    refine va_get (D := (dC, dI)) (ci := 5) (v := .ref md) (C := RX5) (T := TX5) (N := 15) hx hb hts hiX5 hown hK hP 0 rfl rfl 13 (by decide) (hts (.fieldLink RX5 29 "RestRegistersModel" "read" "[I") (by decide +kernel)) (fun _ h9 => h9) rfl dX5_set_60 ?_
    refine lv_iconst (v := (nI 2)) hx hb dX5_set_63 (by decide) ?_
    refine lv_iload_n hx hb dX5_set_64 rfl (lv_at hl 0 rfl) ?_
    refine rn_imul hx hb dX5_set_65 ?_
    refine rn_iald hx hb hK hP 3 0 rfl rfl (i := 2 * k) (by omega) (by decide) (v := (nI (z.1.2.2.2.2.2 (2 * k)))) rfl dX5_set_66 ?_
    refine rn_iast hx hb hK hP hD hS 1 0 rfl rfl (i := 2 + k) (by omega) (by decide) (g := nA (uN (stK (uN (uN Bw 0 z.1.2.2.2.1) 1 z.1.2.2.2.2.1) z.1.2.2.2.2.2 k) (2 + k) (z.1.2.2.2.2.2 (2 * k)))) (nA_upd _ _ _) dX5_set_67 (fun H locs hP hD hS => ?_)
    have hP : va_P (dC, dI) vwCl [(m0, .inr (5, [.ref mw, .int (bi im), .ref mt, .int (nI 0), .ref ml, .ref mz, .ref mi, .ref mr, .int (nI z.1.1), .int (nI z.1.2.1), .int (nI z.1.2.2.1), .int (nI z.1.2.2.2.1), .int (nI z.1.2.2.2.2.1), .ref md, .ref mh])), (mw, .inl (cI, 480, .inl (nA (uN (stK (uN (uN Bw 0 z.1.2.2.2.1) 1 z.1.2.2.2.2.1) z.1.2.2.2.2.2 k) (2 + k) (z.1.2.2.2.2.2 (2 * k)))))), (mt, .inl (cI, 40, .inl (nA Tp))), (md, .inl (cI, 12, .inl (nA z.1.2.2.2.2.2)))] H := hP
    have hD : va_D A [(m0, .inr (5, [.ref mw, .int (bi im), .ref mt, .int (nI 0), .ref ml, .ref mz, .ref mi, .ref mr, .int (nI z.1.1), .int (nI z.1.2.1), .int (nI z.1.2.2.1), .int (nI z.1.2.2.2.1), .int (nI z.1.2.2.2.2.1), .ref md, .ref mh])), (mw, .inl (cI, 480, .inl (nA (uN (stK (uN (uN Bw 0 z.1.2.2.2.1) 1 z.1.2.2.2.2.1) z.1.2.2.2.2.2 k) (2 + k) (z.1.2.2.2.2.2 (2 * k)))))), (mt, .inl (cI, 40, .inl (nA Tp))), (md, .inl (cI, 12, .inl (nA z.1.2.2.2.2.2)))] := hD
    refine lv_aload_n hx hb dX5_set_68 rfl (lv_at hl 2 rfl) ?_
    refine va_get (D := (dC, dI)) (ci := 5) (v := .ref mw) (C := RX5) (T := TX5) (N := 15) hx hb hts hiX5 hown hK hP 0 rfl rfl 0 (by decide) (hts (.fieldLink RX5 7 "RestRegistersModel" "w" "[I") (by decide +kernel)) (fun _ h9 => h9) rfl dX5_set_69 ?_
    refine lv_bipush (v := (nI 8)) hx hb dX5_set_72 (by decide) ?_
    refine lv_iload_n hx hb dX5_set_74 rfl (lv_at hl 0 rfl) ?_
    refine rn_iadd hx hb dX5_set_75 ?_
    refine lv_aload_n hx hb dX5_set_76 rfl (lv_at hl 2 rfl) ?_
    refine va_get (D := (dC, dI)) (ci := 5) (v := .ref md) (C := RX5) (T := TX5) (N := 15) hx hb hts hiX5 hown hK hP 0 rfl rfl 13 (by decide) (hts (.fieldLink RX5 29 "RestRegistersModel" "read" "[I") (by decide +kernel)) (fun _ h9 => h9) rfl dX5_set_77 ?_
    refine lv_iconst (v := (nI 2)) hx hb dX5_set_80 (by decide) ?_
    refine lv_iload_n hx hb dX5_set_81 rfl (lv_at hl 0 rfl) ?_
    refine rn_imul hx hb dX5_set_82 ?_
    refine lv_iconst (v := (nI 1)) hx hb dX5_set_83 (by decide) ?_
    refine rn_iadd hx hb dX5_set_84 ?_
    refine rn_iald hx hb hK hP 3 0 rfl rfl (i := 2 * k + 1) (by omega) (by decide) (v := (nI (z.1.2.2.2.2.2 (2 * k + 1)))) rfl dX5_set_85 ?_
    refine rn_iast hx hb hK hP hD hS 1 0 rfl rfl (i := 8 + k) (by omega) (by decide) (g := nA (uN (uN (stK (uN (uN Bw 0 z.1.2.2.2.1) 1 z.1.2.2.2.2.1) z.1.2.2.2.2.2 k) (2 + k) (z.1.2.2.2.2.2 (2 * k))) (8 + k) (z.1.2.2.2.2.2 (2 * k + 1)))) (nA_upd _ _ _) dX5_set_86 (fun H locs hP hD hS => ?_)
    have hP : va_P (dC, dI) vwCl [(m0, .inr (5, [.ref mw, .int (bi im), .ref mt, .int (nI 0), .ref ml, .ref mz, .ref mi, .ref mr, .int (nI z.1.1), .int (nI z.1.2.1), .int (nI z.1.2.2.1), .int (nI z.1.2.2.2.1), .int (nI z.1.2.2.2.2.1), .ref md, .ref mh])), (mw, .inl (cI, 480, .inl (nA (uN (uN (stK (uN (uN Bw 0 z.1.2.2.2.1) 1 z.1.2.2.2.2.1) z.1.2.2.2.2.2 k) (2 + k) (z.1.2.2.2.2.2 (2 * k))) (8 + k) (z.1.2.2.2.2.2 (2 * k + 1)))))), (mt, .inl (cI, 40, .inl (nA Tp))), (md, .inl (cI, 12, .inl (nA z.1.2.2.2.2.2)))] H := hP
    have hD : va_D A [(m0, .inr (5, [.ref mw, .int (bi im), .ref mt, .int (nI 0), .ref ml, .ref mz, .ref mi, .ref mr, .int (nI z.1.1), .int (nI z.1.2.1), .int (nI z.1.2.2.1), .int (nI z.1.2.2.2.1), .int (nI z.1.2.2.2.2.1), .ref md, .ref mh])), (mw, .inl (cI, 480, .inl (nA (uN (uN (stK (uN (uN Bw 0 z.1.2.2.2.1) 1 z.1.2.2.2.2.1) z.1.2.2.2.2.2 k) (2 + k) (z.1.2.2.2.2.2 (2 * k))) (8 + k) (z.1.2.2.2.2.2 (2 * k + 1)))))), (mt, .inl (cI, 40, .inl (nA Tp))), (md, .inl (cI, 12, .inl (nA z.1.2.2.2.2.2)))] := hD
    have ec : nA (uN (uN (stK (uN (uN Bw 0 z.1.2.2.2.1) 1 z.1.2.2.2.2.1) z.1.2.2.2.2.2 k) (2 + k) (z.1.2.2.2.2.2 (2 * k))) (8 + k) (z.1.2.2.2.2.2 (2 * k + 1))) = nA (stK (uN (uN Bw 0 z.1.2.2.2.1) 1 z.1.2.2.2.2.1) z.1.2.2.2.2.2 (k + 1)) := stK_s _ _ (by omega)
    rw [ec] at hP hD
    have hP : va_P (dC, dI) vwCl [(m0, .inr (5, [.ref mw, .int (bi im), .ref mt, .int (nI 0), .ref ml, .ref mz, .ref mi, .ref mr, .int (nI z.1.1), .int (nI z.1.2.1), .int (nI z.1.2.2.1), .int (nI z.1.2.2.2.1), .int (nI z.1.2.2.2.2.1), .ref md, .ref mh])), (mw, .inl (cI, 480, .inl (nA (stK (uN (uN Bw 0 z.1.2.2.2.1) 1 z.1.2.2.2.2.1) z.1.2.2.2.2.2 (k + 1))))), (mt, .inl (cI, 40, .inl (nA Tp))), (md, .inl (cI, 12, .inl (nA z.1.2.2.2.2.2)))] H := hP
    have hD : va_D A [(m0, .inr (5, [.ref mw, .int (bi im), .ref mt, .int (nI 0), .ref ml, .ref mz, .ref mi, .ref mr, .int (nI z.1.1), .int (nI z.1.2.1), .int (nI z.1.2.2.1), .int (nI z.1.2.2.2.1), .int (nI z.1.2.2.2.2.1), .ref md, .ref mh])), (mw, .inl (cI, 480, .inl (nA (stK (uN (uN Bw 0 z.1.2.2.2.1) 1 z.1.2.2.2.2.1) z.1.2.2.2.2.2 (k + 1))))), (mt, .inl (cI, 40, .inl (nA Tp))), (md, .inl (cI, 12, .inl (nA z.1.2.2.2.2.2)))] := hD
    refine lv_iinc (v := (nI (k + 1))) (lv' := [(2, .int (nI (k + 1))), (1, .int (bi z.2)), (0, .ref m0)]) hx hb dX5_set_87 hl (k := 0) rfl (rn_inc k 1) (by decide) rfl (fun ls hl => ?_)
    refine lv_goto (tgt := 44) hx hb dX5_set_90 (by decide) ?_
    exact ih44 (k + 1) _ _ ls ⟨by omega, hP, hD, hS, lv_sub hl [0, 1, 2] rfl⟩ (by omega)
  exact absurd (c11.symm.trans hps) (by decide)
set_option maxHeartbeats 4000000 in
set_option maxRecDepth 100000 in
theorem c_X5_set_b (l : Launch) (dC : Nat → ClassId) (dI : Nat → Nat → Nat) (cI cJ cS : ClassId) (sz : Nat) (m0 mw mt ml mz mi mr md mh : Nat) (im : Bool) (tl at0 st0 nu rm rh : Nat) (Bw Tp Rd : Nat → Nat) (ht : tpOk Tp tl) (hps : (rdL Tp tl 6 (0, st0, nu, 0, 0, Rd) false).2 = false) : Met l yX5_set wsX5_set ({ frames := 4, cells := 0, slots := 0, locals := 94 }) (va_Pc [.ref m0] (rW (dC, dI) vwCl [(m0, .inr (5, [.ref mw, .int (bi im), .ref mt, .int (nI tl), .ref ml, .ref mz, .ref mi, .ref mr, .int (nI at0), .int (nI st0), .int (nI nu), .int (nI rm), .int (nI rh), .ref md, .ref mh])), (mw, .inl (cI, 480, .inl (nA Bw))), (mt, .inl (cI, 40, .inl (nA Tp))), (md, .inl (cI, 12, .inl (nA Rd)))] (tyz cI cJ cS) sz)) (qI (pfI (rdL Tp tl 6 (0, st0, nu, 0, 0, Rd) false).1.2.1) (dC, dI) vwCl [(m0, .inr (5, [.ref mw, .int (bi im), .ref mt, .int (nI 0), .ref ml, .ref mz, .ref mi, .ref mr, .int (nI ((rdL Tp tl 6 (0, st0, nu, 0, 0, Rd) false).1.1)), .int (nI ((rdL Tp tl 6 (0, st0, nu, 0, 0, Rd) false).1.2.1)), .int (nI ((rdL Tp tl 6 (0, st0, nu, 0, 0, Rd) false).1.2.2.1)), .int (nI ((rdL Tp tl 6 (0, st0, nu, 0, 0, Rd) false).1.2.2.2.1)), .int (nI ((rdL Tp tl 6 (0, st0, nu, 0, 0, Rd) false).1.2.2.2.2.1)), .ref md, .ref mh])), (mw, .inl (cI, 480, .inl (nA Bw))), (mt, .inl (cI, 40, .inl (nA Tp))), (md, .inl (cI, 12, .inl (nA ((rdL Tp tl 6 (0, st0, nu, 0, 0, Rd) false).1.2.2.2.2.2))))] (va_A [(m0, .inr (5, [.ref mw, .int (bi im), .ref mt, .int (nI tl), .ref ml, .ref mz, .ref mi, .ref mr, .int (nI at0), .int (nI st0), .int (nI nu), .int (nI rm), .int (nI rh), .ref md, .ref mh])), (mw, .inl (cI, 480, .inl (nA Bw))), (mt, .inl (cI, 40, .inl (nA Tp))), (md, .inl (cI, 12, .inl (nA Rd)))] sz)) 0 0 (va_A [(m0, .inr (5, [.ref mw, .int (bi im), .ref mt, .int (nI tl), .ref ml, .ref mz, .ref mi, .ref mr, .int (nI at0), .int (nI st0), .int (nI nu), .int (nI rm), .int (nI rh), .ref md, .ref mh])), (mw, .inl (cI, 480, .inl (nA Bw))), (mt, .inl (cI, 40, .inl (nA Tp))), (md, .inl (cI, 12, .inl (nA Rd)))] sz) := by
  refine Met.ofW (cc := cX5_set) (maxL := 3) (ret := (some .int)) (by decide) rfl ?_
  intro p e s m args below meth c s₁ B hml hv
  obtain ⟨rfl, hsz, hP, hKK, hD0⟩ := hv
  have hK := hKK.1
  have hx := B.exec
  have hb := B.bytes
  have hr := B.returns
  have hts := atoms_spec (ws := wsX5_set) B.pre
  have hown : s.vm.findClass RX5 = some m.cls := findClass_of_methodNamed B.named
  have hlocks := B.notSynchronized
  subst hsz
  have hD := hD0.self (sz := s.heap.size)
  generalize hAe : va_A [(m0, .inr (5, [.ref mw, .int (bi im), .ref mt, .int (nI tl), .ref ml, .ref mz, .ref mi, .ref mr, .int (nI at0), .int (nI st0), .int (nI nu), .int (nI rm), .int (nI rh), .ref md, .ref mh])), (mw, .inl (cI, 480, .inl (nA Bw))), (mt, .inl (cI, 40, .inl (nA Tp))), (md, .inl (cI, 12, .inl (nA Rd)))] s.heap.size = A at hD ⊢
  have hA : ∀ q : Nat, s.heap.size ≤ q → A q := fun q h => by rw [← hAe]; exact Or.inr h
  have hS : va_S A s.heap s.heap [] := va_S.rf
  have hP : va_P (dC, dI) vwCl [(m0, .inr (5, [.ref mw, .int (bi im), .ref mt, .int (nI tl), .ref ml, .ref mz, .ref mi, .ref mr, .int (nI at0), .int (nI st0), .int (nI nu), .int (nI rm), .int (nI rh), .ref md, .ref mh])), (mw, .inl (cI, 480, .inl (nA Bw))), (mt, .inl (cI, 40, .inl (nA Tp))), (md, .inl (cI, 12, .inl (nA Rd)))] s.heap := hP
  have hiX5 : ∀ w ∈ wsX50, w ∈ wsX5_set := by decide +kernel
  have hl := lv_entry ([.ref m0]) (n := 3) (Nat.le_of_ble_eq_true rfl)
  rw [lg_entry_eq]
  generalize (lg_sl ([.ref m0]) ++ List.replicate (3 - (lg_sl ([.ref m0])).length) Slot.unset).toArray = ls at hl ⊢
  have hl : lv_has ls 3 [(0, .ref m0)] := hl
  have h40 := ht.1
  have hk6 := (rdL_ok6 (nu := nu) (st0 := st0) (R := Rd) ht)
  refine lv_aload_n hx hb dX5_set_0 rfl (lv_at hl 0 rfl) ?_
  refine rw_calli (va_runV (As := []) (rest := []) ⟨hx, hb, hml, hown, hts⟩ (c_X5_readsAll l dC dI cI cJ cS _ m0 mw mt ml mz mi mr md mh im tl at0 st0 nu rm rh Tp Rd (by first | assumption | omega)) (cwV 0 hts gX5_set_X5_readsAll rfl rfl rfl (by decide +kernel) ⟨Nat.le_of_ble_eq_true rfl, Nat.le_of_ble_eq_true rfl⟩) (rw_preV hKK (hP.sub [0, 2, 3] rfl) (hD.sub [0, 2, 3] (by decide) rfl) rfl rfl) rfl rfl hl.1 rfl (lv_room (Nat.le_of_ble_eq_true rfl)) dX5_set_1 ⟨Nat.zero_le _, Nat.zero_le _⟩) (wr := [(mw, .inl (cI, 480, .inl (nA Bw)))]) hP hD hS hA [0, 2, 3] [1] rfl rfl (by decide) (by decide) (fun H locs hP hD hS => ?_)
  have hP : va_P (dC, dI) vwCl [(m0, .inr (5, [.ref mw, .int (bi im), .ref mt, .int (nI tl), .ref ml, .ref mz, .ref mi, .ref mr, .int (nI ((rdL Tp tl 6 (0, st0, nu, 0, 0, Rd) false).1.1)), .int (nI ((rdL Tp tl 6 (0, st0, nu, 0, 0, Rd) false).1.2.1)), .int (nI ((rdL Tp tl 6 (0, st0, nu, 0, 0, Rd) false).1.2.2.1)), .int (nI ((rdL Tp tl 6 (0, st0, nu, 0, 0, Rd) false).1.2.2.2.1)), .int (nI ((rdL Tp tl 6 (0, st0, nu, 0, 0, Rd) false).1.2.2.2.2.1)), .ref md, .ref mh])), (mw, .inl (cI, 480, .inl (nA Bw))), (mt, .inl (cI, 40, .inl (nA Tp))), (md, .inl (cI, 12, .inl (nA ((rdL Tp tl 6 (0, st0, nu, 0, 0, Rd) false).1.2.2.2.2.2))))] H := hP.sub [1, 0, 2, 3] rfl
  have hD : va_D A [(m0, .inr (5, [.ref mw, .int (bi im), .ref mt, .int (nI tl), .ref ml, .ref mz, .ref mi, .ref mr, .int (nI ((rdL Tp tl 6 (0, st0, nu, 0, 0, Rd) false).1.1)), .int (nI ((rdL Tp tl 6 (0, st0, nu, 0, 0, Rd) false).1.2.1)), .int (nI ((rdL Tp tl 6 (0, st0, nu, 0, 0, Rd) false).1.2.2.1)), .int (nI ((rdL Tp tl 6 (0, st0, nu, 0, 0, Rd) false).1.2.2.2.1)), .int (nI ((rdL Tp tl 6 (0, st0, nu, 0, 0, Rd) false).1.2.2.2.2.1)), .ref md, .ref mh])), (mw, .inl (cI, 480, .inl (nA Bw))), (mt, .inl (cI, 40, .inl (nA Tp))), (md, .inl (cI, 12, .inl (nA ((rdL Tp tl 6 (0, st0, nu, 0, 0, Rd) false).1.2.2.2.2.2))))] := hD.sub [1, 0, 2, 3] (by decide) rfl
  generalize eu : (rdL Tp tl 6 (0, st0, nu, 0, 0, Rd) false) = z at hP hD hps hk6 ⊢
  have hP : va_P (dC, dI) vwCl [(m0, .inr (5, [.ref mw, .int (bi im), .ref mt, .int (nI tl), .ref ml, .ref mz, .ref mi, .ref mr, .int (nI z.1.1), .int (nI z.1.2.1), .int (nI z.1.2.2.1), .int (nI z.1.2.2.2.1), .int (nI z.1.2.2.2.2.1), .ref md, .ref mh])), (mw, .inl (cI, 480, .inl (nA Bw))), (mt, .inl (cI, 40, .inl (nA Tp))), (md, .inl (cI, 12, .inl (nA z.1.2.2.2.2.2)))] H := hP
  have hD : va_D A [(m0, .inr (5, [.ref mw, .int (bi im), .ref mt, .int (nI tl), .ref ml, .ref mz, .ref mi, .ref mr, .int (nI z.1.1), .int (nI z.1.2.1), .int (nI z.1.2.2.1), .int (nI z.1.2.2.2.1), .int (nI z.1.2.2.2.2.1), .ref md, .ref mh])), (mw, .inl (cI, 480, .inl (nA Bw))), (mt, .inl (cI, 40, .inl (nA Tp))), (md, .inl (cI, 12, .inl (nA z.1.2.2.2.2.2)))] := hD
  have hz6 : z.1.2.2.2.1 ≤ 6 := hk6.1.2.1
  refine lv_istore_n (lv' := [(1, .int (bi z.2)), (0, .ref m0)]) hx hb dX5_set_4 rfl hl (by decide) rfl (fun ls hl => ?_)
  refine lv_aload_n hx hb dX5_set_5 rfl (lv_at hl 1 rfl) ?_
  refine lv_iconst (v := (nI 0)) hx hb dX5_set_6 (by decide) ?_
  refine va_put (D := (dC, dI)) (ci := 5) (v := .int (nI 0)) (ty := .int) (C := RX5) (T := TX5) (N := 15) hx hb hts hiX5 tyX5 tyX5_ok nmX5 hown hK hP hD hS 0 rfl rfl 3 (by decide) (hts (.fieldLink RX5 77 "RestRegistersModel" "taped" "I") (by decide +kernel)) (fun _ h9 => h9) rfl (by decide +kernel) rfl rfl (Nat.le_of_ble_eq_true rfl) dX5_set_7 (fun H locs hP hD hS => ?_)
  have hP : va_P (dC, dI) vwCl [(m0, .inr (5, [.ref mw, .int (bi im), .ref mt, .int (nI 0), .ref ml, .ref mz, .ref mi, .ref mr, .int (nI z.1.1), .int (nI z.1.2.1), .int (nI z.1.2.2.1), .int (nI z.1.2.2.2.1), .int (nI z.1.2.2.2.2.1), .ref md, .ref mh])), (mw, .inl (cI, 480, .inl (nA Bw))), (mt, .inl (cI, 40, .inl (nA Tp))), (md, .inl (cI, 12, .inl (nA z.1.2.2.2.2.2)))] H := hP
  have hD : va_D A [(m0, .inr (5, [.ref mw, .int (bi im), .ref mt, .int (nI 0), .ref ml, .ref mz, .ref mi, .ref mr, .int (nI z.1.1), .int (nI z.1.2.1), .int (nI z.1.2.2.1), .int (nI z.1.2.2.2.1), .int (nI z.1.2.2.2.2.1), .ref md, .ref mh])), (mw, .inl (cI, 480, .inl (nA Bw))), (mt, .inl (cI, 40, .inl (nA Tp))), (md, .inl (cI, 12, .inl (nA z.1.2.2.2.2.2)))] := hD
  refine lv_iload_n hx hb dX5_set_10 rfl (lv_at hl 0 rfl) ?_
  refine rb_if_ne (tgt := 22) hx hb dX5_set_11 (by decide) (fun c11 => ?_) (fun c11 => ?_)
  · skip
    exact absurd (c11.symm.trans hps) (by decide)
  refine lv_bipush (v := (-20)) hx hb dX5_set_14 (by decide) ?_
  refine lv_aload_n hx hb dX5_set_16 rfl (lv_at hl 1 rfl) ?_
  refine va_get (D := (dC, dI)) (ci := 5) (v := .int (nI z.1.2.1)) (C := RX5) (T := TX5) (N := 15) hx hb hts hiX5 hown hK hP 0 rfl rfl 9 (by decide) (hts (.fieldLink RX5 84 "RestRegistersModel" "start" "I") (by decide +kernel)) (fun _ h9 => h9) rfl dX5_set_17 ?_
  refine lv_isub hx hb dX5_set_20 ?_
  exact rr_iretW hx hb hr hlocks dX5_set_21 hP hD hS (rfl)
