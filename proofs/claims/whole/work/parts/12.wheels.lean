set_option maxHeartbeats 4000000 in
set_option maxRecDepth 100000 in
theorem c_J6_bitCount_0f7a4 (l : Launch) (x : Nat) (hx2 : x < 64) : Met l yJ6_bitCount_0f7a4 wsJ6_bitCount_0f7a4 ({ frames := 0, cells := 0, slots := 0, locals := 0 }) (va_Pc [.int (nI x)] (fun _ => True)) (QcRead (nI (popc x))) 0 0 (fun _ => False) := by
  refine Met.ofW (cc := cJ6_bitCount_0f7a4) (maxL := 1) (ret := (some .int)) (by decide) rfl ?_
  intro p e s m args below meth c s₁ B hml hv
  obtain ⟨rfl, -⟩ := hv
  have hx := B.exec
  have hb := B.bytes
  have hr := B.returns
  have hts := atoms_spec (ws := wsJ6_bitCount_0f7a4) B.pre
  have hown : s.vm.findClass RJ6 = some m.cls := findClass_of_methodNamed B.named
  have hlocks := B.notSynchronized
  have hl := lv_entry ([.int (nI x)]) (n := 1) (Nat.le_of_ble_eq_true rfl)
  rw [lg_entry_eq]
  generalize (lg_sl ([.int (nI x)]) ++ List.replicate (1 - (lg_sl ([.int (nI x)])).length) Slot.unset).toArray = ls at hl ⊢
  have hl : lv_has ls 1 [(0, .int (nI x))] := hl
  refine lv_iload_n hx hb dJ6_bitCount_0f7a4_0 rfl (lv_at hl 0 rfl) ?_
  refine lv_iload_n hx hb dJ6_bitCount_0f7a4_1 rfl (lv_at hl 0 rfl) ?_
  refine lv_iconst (v := (nI 1)) hx hb dJ6_bitCount_0f7a4_2 (by decide) ?_
  refine lv_iushr hx hb dJ6_bitCount_0f7a4_3 rfl ?_
  refine lv_ldcw (v := 1431655765) hx hb hown (hts (.constant RJ6 265 (1431655765)) (by decide +kernel)) dJ6_bitCount_0f7a4_4 ?_
  refine rr_top (y := nI 1431655765) (by decide) ?_
  refine lv_iand hx hb dJ6_bitCount_0f7a4_7 ?_
  refine lv_isub hx hb dJ6_bitCount_0f7a4_8 ?_
  refine lv_topi (fun y1 e_y1 => ?_)
  refine lv_istore_n (lv' := [(0, .int y1)]) hx hb dJ6_bitCount_0f7a4_9 rfl hl (by decide) rfl (fun ls hl => ?_)
  refine lv_iload_n hx hb dJ6_bitCount_0f7a4_10 rfl (lv_at hl 0 rfl) ?_
  refine lv_ldcw (v := 858993459) hx hb hown (hts (.constant RJ6 266 (858993459)) (by decide +kernel)) dJ6_bitCount_0f7a4_11 ?_
  refine rr_top (y := nI 858993459) (by decide) ?_
  refine lv_iand hx hb dJ6_bitCount_0f7a4_14 ?_
  refine lv_iload_n hx hb dJ6_bitCount_0f7a4_15 rfl (lv_at hl 0 rfl) ?_
  refine lv_iconst (v := (nI 2)) hx hb dJ6_bitCount_0f7a4_16 (by decide) ?_
  refine lv_iushr hx hb dJ6_bitCount_0f7a4_17 rfl ?_
  refine lv_ldcw (v := 858993459) hx hb hown (hts (.constant RJ6 266 (858993459)) (by decide +kernel)) dJ6_bitCount_0f7a4_18 ?_
  refine rr_top (y := nI 858993459) (by decide) ?_
  refine lv_iand hx hb dJ6_bitCount_0f7a4_21 ?_
  refine lv_iadd hx hb dJ6_bitCount_0f7a4_22 ?_
  refine lv_topi (fun y2 e_y2 => ?_)
  refine lv_istore_n (lv' := [(0, .int y2)]) hx hb dJ6_bitCount_0f7a4_23 rfl hl (by decide) rfl (fun ls hl => ?_)
  refine lv_iload_n hx hb dJ6_bitCount_0f7a4_24 rfl (lv_at hl 0 rfl) ?_
  refine lv_iload_n hx hb dJ6_bitCount_0f7a4_25 rfl (lv_at hl 0 rfl) ?_
  refine lv_iconst (v := (nI 4)) hx hb dJ6_bitCount_0f7a4_26 (by decide) ?_
  refine lv_iushr hx hb dJ6_bitCount_0f7a4_27 rfl ?_
  refine lv_iadd hx hb dJ6_bitCount_0f7a4_28 ?_
  refine lv_ldcw (v := 252645135) hx hb hown (hts (.constant RJ6 267 (252645135)) (by decide +kernel)) dJ6_bitCount_0f7a4_29 ?_
  refine rr_top (y := nI 252645135) (by decide) ?_
  refine lv_iand hx hb dJ6_bitCount_0f7a4_32 ?_
  refine lv_topi (fun y3 e_y3 => ?_)
  refine lv_istore_n (lv' := [(0, .int y3)]) hx hb dJ6_bitCount_0f7a4_33 rfl hl (by decide) rfl (fun ls hl => ?_)
  refine lv_iload_n hx hb dJ6_bitCount_0f7a4_34 rfl (lv_at hl 0 rfl) ?_
  refine lv_iload_n hx hb dJ6_bitCount_0f7a4_35 rfl (lv_at hl 0 rfl) ?_
  refine lv_bipush (v := (nI 8)) hx hb dJ6_bitCount_0f7a4_36 (by decide) ?_
  refine lv_iushr hx hb dJ6_bitCount_0f7a4_38 rfl ?_
  refine lv_iadd hx hb dJ6_bitCount_0f7a4_39 ?_
  refine lv_topi (fun y4 e_y4 => ?_)
  refine lv_istore_n (lv' := [(0, .int y4)]) hx hb dJ6_bitCount_0f7a4_40 rfl hl (by decide) rfl (fun ls hl => ?_)
  refine lv_iload_n hx hb dJ6_bitCount_0f7a4_41 rfl (lv_at hl 0 rfl) ?_
  refine lv_iload_n hx hb dJ6_bitCount_0f7a4_42 rfl (lv_at hl 0 rfl) ?_
  refine lv_bipush (v := (nI 16)) hx hb dJ6_bitCount_0f7a4_43 (by decide) ?_
  refine lv_iushr hx hb dJ6_bitCount_0f7a4_45 rfl ?_
  refine lv_iadd hx hb dJ6_bitCount_0f7a4_46 ?_
  refine lv_topi (fun y5 e_y5 => ?_)
  refine lv_istore_n (lv' := [(0, .int y5)]) hx hb dJ6_bitCount_0f7a4_47 rfl hl (by decide) rfl (fun ls hl => ?_)
  refine lv_iload_n hx hb dJ6_bitCount_0f7a4_48 rfl (lv_at hl 0 rfl) ?_
  refine lv_bipush (v := (nI 63)) hx hb dJ6_bitCount_0f7a4_49 (by decide) ?_
  refine lv_iand hx hb dJ6_bitCount_0f7a4_51 ?_
  exact rr_iret hx hb hr hlocks dJ6_bitCount_0f7a4_52 (by subst e_y5; subst e_y4; subst e_y3; subst e_y2; subst e_y1; exact bcF_ok hx2)
set_option maxHeartbeats 4000000 in
set_option maxRecDepth 100000 in
theorem c_J6_compare_7cf53 (l : Launch) (x y : Int32) : Met l yJ6_compare_7cf53 wsJ6_compare_7cf53 ({ frames := 0, cells := 0, slots := 0, locals := 0 }) (va_Pc [.int x, .int y] (fun _ => True)) (QcRead (cmpI x y)) 0 0 (fun _ => False) := by
  refine Met.ofW (cc := cJ6_compare_7cf53) (maxL := 2) (ret := (some .int)) (by decide) rfl ?_
  intro p e s m args below meth c s₁ B hml hv
  obtain ⟨rfl, -⟩ := hv
  have hx := B.exec
  have hb := B.bytes
  have hr := B.returns
  have hts := atoms_spec (ws := wsJ6_compare_7cf53) B.pre
  have hown : s.vm.findClass RJ6 = some m.cls := findClass_of_methodNamed B.named
  have hlocks := B.notSynchronized
  have hl := lv_entry ([.int x, .int y]) (n := 2) (Nat.le_of_ble_eq_true rfl)
  rw [lg_entry_eq]
  generalize (lg_sl ([.int x, .int y]) ++ List.replicate (2 - (lg_sl ([.int x, .int y])).length) Slot.unset).toArray = ls at hl ⊢
  have hl : lv_has ls 2 [(0, .int x), (1, .int y)] := hl
  refine lv_iload_n hx hb dJ6_compare_7cf53_0 rfl (lv_at hl 0 rfl) ?_
  refine lv_iload_n hx hb dJ6_compare_7cf53_1 rfl (lv_at hl 1 rfl) ?_
  refine lv_icmp_ge (tgt := 9) hx hb dJ6_compare_7cf53_2 (by decide) (fun c2 => ?_) (fun c2 => ?_)
  · skip
    refine lv_iload_n hx hb dJ6_compare_7cf53_9 rfl (lv_at hl 0 rfl) ?_
    refine lv_iload_n hx hb dJ6_compare_7cf53_10 rfl (lv_at hl 1 rfl) ?_
    refine lv_icmp_ne (tgt := 18) hx hb dJ6_compare_7cf53_11 (by decide) (fun c11 => ?_) (fun c11 => ?_)
    · skip
      refine lv_iconst (v := (nI 1)) hx hb dJ6_compare_7cf53_18 (by decide) ?_
      exact rr_iret hx hb hr hlocks dJ6_compare_7cf53_19 (by unfold cmpI; (repeat' split) <;> first | rfl | contradiction | (rw [Int32.lt_iff_toInt_lt] at *; rw [Int32.le_iff_toInt_le] at *; omega))
    refine lv_iconst (v := (nI 0)) hx hb dJ6_compare_7cf53_14 (by decide) ?_
    refine lv_goto (tgt := 19) hx hb dJ6_compare_7cf53_15 (by decide) ?_
    exact rr_iret hx hb hr hlocks dJ6_compare_7cf53_19 (by unfold cmpI; (repeat' split) <;> first | rfl | contradiction | (rw [Int32.lt_iff_toInt_lt] at *; rw [Int32.le_iff_toInt_le] at *; omega))
  refine lv_iconst (v := (-1)) hx hb dJ6_compare_7cf53_5 (by decide) ?_
  refine lv_goto (tgt := 19) hx hb dJ6_compare_7cf53_6 (by decide) ?_
  exact rr_iret hx hb hr hlocks dJ6_compare_7cf53_19 (by unfold cmpI; (repeat' split) <;> first | rfl | contradiction | (rw [Int32.lt_iff_toInt_lt] at *; rw [Int32.le_iff_toInt_le] at *; omega))
set_option maxHeartbeats 4000000 in
set_option maxRecDepth 100000 in
theorem c_X3_added (l : Launch) (dC : Nat → ClassId) (dI : Nat → Nat → Nat) (cI cJ cS : ClassId) (h3 hk hw hs : Nat) (n h rg sp : Nat) (kf wf sf : Nat → Int32) (Kd Wd Sh : Nat → Nat) (k a b : Nat) (ok : wOk n Kd Wd) (fk : isA n kf Kd) (fw : isA n wf Wd) (hk2 : k < n) (ha : a < Wd k) (hb2 : b < Wd k) : Met l yX3_added wsX3_added ({ frames := 3, cells := 0, slots := 0, locals := 69 }) (va_Pc [.ref h3, .int (nI k), .int (nI a), .int (nI b)] (rB (dC, dI) vwCl [(h3, .inr (3, [.int (nI n), .int (nI h), .int (nI rg), .int (nI sp), .ref hk, .ref hw, .ref hs])), (hk, .inl (cI, 6, .inl kf)), (hw, .inl (cI, 6, .inl wf)), (hs, .inl (cI, 6, .inl sf))] (tyz cI cJ cS))) (QcRead (nI (addK (Kd k) (Wd k) a b))) 0 0 (fun _ => False) := by
  refine Met.ofW (cc := cX3_added) (maxL := 4) (ret := (some .int)) (by decide) rfl ?_
  intro p e s m args below meth c s₁ B hml hv
  obtain ⟨rfl, hP, hKK⟩ := hv
  have hK := hKK.1
  have hx := B.exec
  have hb := B.bytes
  have hr := B.returns
  have hts := atoms_spec (ws := wsX3_added) B.pre
  have hown : s.vm.findClass RX3 = some m.cls := findClass_of_methodNamed B.named
  have hlocks := B.notSynchronized
  have hiX3 : ∀ w ∈ wsX30, w ∈ wsX3_added := by decide +kernel
  have hl := lv_entry ([.ref h3, .int (nI k), .int (nI a), .int (nI b)]) (n := 4) (Nat.le_of_ble_eq_true rfl)
  rw [lg_entry_eq]
  generalize (lg_sl ([.ref h3, .int (nI k), .int (nI a), .int (nI b)]) ++ List.replicate (4 - (lg_sl ([.ref h3, .int (nI k), .int (nI a), .int (nI b)])).length) Slot.unset).toArray = ls at hl ⊢
  have hl : lv_has ls 4 [(0, .ref h3), (1, .int (nI k)), (2, .int (nI a)), (3, .int (nI b))] := hl
  have hn6 := ok.1
  refine lv_aload_n hx hb dX3_added_0 rfl (lv_at hl 0 rfl) ?_
  refine va_get (D := (dC, dI)) (ci := 3) (v := .ref hk) (C := RX3) (T := TX3) (N := 7) hx hb hts hiX3 hown hK hP 0 rfl rfl 4 (by decide) (hts (.fieldLink RX3 18 "RestRegisters$Wheels" "kinds" "[I") (by decide +kernel)) (fun _ h9 => h9) rfl dX3_added_1 ?_
  refine lv_iload_n hx hb dX3_added_4 rfl (lv_at hl 1 rfl) ?_
  refine rn_iald hx hb hK hP 1 0 rfl rfl (i := k) (by omega) (by decide) (v := (nI (Kd k))) (fk k (by omega)) dX3_added_5 ?_
  have hv5 := ok.2.1 k (by omega)
  refine lv_aload_n hx hb dX3_added_6 rfl (lv_at hl 0 rfl) ?_
  refine va_get (D := (dC, dI)) (ci := 3) (v := .ref hw) (C := RX3) (T := TX3) (N := 7) hx hb hts hiX3 hown hK hP 0 rfl rfl 5 (by decide) (hts (.fieldLink RX3 22 "RestRegisters$Wheels" "widths" "[I") (by decide +kernel)) (fun _ h9 => h9) rfl dX3_added_7 ?_
  refine lv_iload_n hx hb dX3_added_10 rfl (lv_at hl 1 rfl) ?_
  refine rn_iald hx hb hK hP 2 0 rfl rfl (i := k) (by omega) (by decide) (v := (nI (Wd k))) (fw k (by omega)) dX3_added_11 ?_
  have hv11 := ok.2.2.1 k (by omega)
  refine lv_iload_n hx hb dX3_added_12 rfl (lv_at hl 2 rfl) ?_
  refine lv_iload_n hx hb dX3_added_13 rfl (lv_at hl 3 rfl) ?_
  refine rr_callR (va_runS (As := [.int (nI (Kd k)), .int (nI (Wd k)), .int (nI a), .int (nI b)]) (rest := []) ⟨hx, hb, hml, hown, hts⟩ (c_X3_addedByKind l (Kd k) (Wd k) a b (by first | assumption | omega) (by first | assumption | omega) (by first | assumption | omega) (by first | assumption | omega) (by first | assumption | omega)) (va_cwS 4 hts gX3_added_X3_addedByKind rfl rfl rfl (by decide +kernel) ⟨Nat.le_of_ble_eq_true rfl, Nat.le_of_ble_eq_true rfl⟩) rr_preT rfl rfl hl.1 rfl (lv_room (Nat.le_of_ble_eq_true rfl)) dX3_added_14 ⟨Nat.zero_le _, Nat.zero_le _⟩) ?_
  exact rr_iret hx hb hr hlocks dX3_added_17 (rfl)
set_option maxHeartbeats 4000000 in
set_option maxRecDepth 100000 in
theorem c_X3_addedOften (l : Launch) (dC : Nat → ClassId) (dI : Nat → Nat → Nat) (cI cJ cS : ClassId) (h3 hk hw hs : Nat) (n h rg sp : Nat) (kf wf sf : Nat → Int32) (Kd Wd Sh : Nat → Nat) (k a b t : Nat) (ok : wOk n Kd Wd) (fk : isA n kf Kd) (fw : isA n wf Wd) (hk2 : k < n) (ha : a < Wd k) (hb2 : b < Wd k) (ht2 : t < 2 ^ 31) : Met l yX3_addedOften wsX3_addedOften ({ frames := 4, cells := 0, slots := 0, locals := 92 }) (va_Pc [.ref h3, .int (nI k), .int (nI a), .int (nI b), .int (nI t)] (rB (dC, dI) vwCl [(h3, .inr (3, [.int (nI n), .int (nI h), .int (nI rg), .int (nI sp), .ref hk, .ref hw, .ref hs])), (hk, .inl (cI, 6, .inl kf)), (hw, .inl (cI, 6, .inl wf)), (hs, .inl (cI, 6, .inl sf))] (tyz cI cJ cS))) (QcRead (nI (addO (Kd k) (Wd k) a b t))) 0 0 (fun _ => False) := by
  refine Met.ofW (cc := cX3_addedOften) (maxL := 7) (ret := (some .int)) (by decide) rfl ?_
  intro p e s m args below meth c s₁ B hml hv
  obtain ⟨rfl, hP, hKK⟩ := hv
  have hK := hKK.1
  have hx := B.exec
  have hb := B.bytes
  have hr := B.returns
  have hts := atoms_spec (ws := wsX3_addedOften) B.pre
  have hown : s.vm.findClass RX3 = some m.cls := findClass_of_methodNamed B.named
  have hlocks := B.notSynchronized
  have hl := lv_entry ([.ref h3, .int (nI k), .int (nI a), .int (nI b), .int (nI t)]) (n := 7) (Nat.le_of_ble_eq_true rfl)
  rw [lg_entry_eq]
  generalize (lg_sl ([.ref h3, .int (nI k), .int (nI a), .int (nI b), .int (nI t)]) ++ List.replicate (7 - (lg_sl ([.ref h3, .int (nI k), .int (nI a), .int (nI b), .int (nI t)])).length) Slot.unset).toArray = ls at hl ⊢
  have hl : lv_has ls 7 [(0, .ref h3), (1, .int (nI k)), (2, .int (nI a)), (3, .int (nI b)), (4, .int (nI t))] := hl
  have hn6 := ok.1
  refine lv_iload_n hx hb dX3_addedOften_0 rfl (lv_at hl 2 rfl) ?_
  refine lv_istore (lv' := [(5, .int (nI a)), (0, .ref h3), (1, .int (nI k)), (2, .int (nI a)), (3, .int (nI b)), (4, .int (nI t))]) hx hb dX3_addedOften_1 hl (by decide) rfl (fun ls hl => ?_)
  refine lv_iconst (v := (nI 0)) hx hb dX3_addedOften_3 (by decide) ?_
  refine lv_istore (lv' := [(6, .int (nI 0)), (5, .int (nI a)), (0, .ref h3), (1, .int (nI k)), (2, .int (nI a)), (3, .int (nI b)), (4, .int (nI t))]) hx hb dX3_addedOften_4 hl (by decide) rfl (fun ls hl => ?_)
  refine rl1 (A1 := Nat) (fun ls => W p l e _ s m _ below meth c s.heap [] 0 0 _ (F0 m 6 ls [])) (fun i ls => i ≤ t ∧ lv_has ls 7 [(6, .int (nI i)), (5, .int (nI (addO (Kd k) (Wd k) a b i))), (0, .ref h3), (1, .int (nI k)), (2, .int (nI a)), (3, .int (nI b)), (4, .int (nI t))]) (fun i => t - i) ?_ 0 ls ⟨by omega, lv_sub hl [0, 1, 2, 3, 4, 5, 6] rfl⟩
  rintro i ls ⟨hi, hl⟩ ih6
  refine lv_iload hx hb dX3_addedOften_6 (lv_at hl 0 rfl) ?_
  refine lv_iload hx hb dX3_addedOften_8 (lv_at hl 6 rfl) ?_
  refine rn_icmp_ge (tgt := 29) hx hb dX3_addedOften_10 (by decide) (by omega) (by omega) (fun c10 => ?_) (fun c10 => ?_)
  · skip
    refine lv_iload hx hb dX3_addedOften_29 (lv_at hl 1 rfl) ?_
    exact rr_iret hx hb hr hlocks dX3_addedOften_31 (by rw [Nat.le_antisymm hi c10])
  refine lv_aload_n hx hb dX3_addedOften_13 rfl (lv_at hl 2 rfl) ?_
  refine lv_iload_n hx hb dX3_addedOften_14 rfl (lv_at hl 3 rfl) ?_
  refine lv_iload hx hb dX3_addedOften_15 (lv_at hl 1 rfl) ?_
  refine lv_iload_n hx hb dX3_addedOften_17 rfl (lv_at hl 5 rfl) ?_
  refine rr_callR (va_runV (As := [.int (nI k), .int (nI (addO (Kd k) (Wd k) a b i)), .int (nI b)]) (rest := []) ⟨hx, hb, hml, hown, hts⟩ (c_X3_added l dC dI cI cJ cS h3 hk hw hs n h rg sp kf wf sf Kd Wd Sh k (addO (Kd k) (Wd k) a b i) b (by first | assumption | omega) (by first | assumption | omega) (by first | assumption | omega) (by first | assumption | omega) (addO_lt ha hb2 i) (by first | assumption | omega)) (cwV 3 hts gX3_addedOften_X3_added rfl rfl rfl (by decide +kernel) ⟨Nat.le_of_ble_eq_true rfl, Nat.le_of_ble_eq_true rfl⟩) (rr_preV hKK hP rfl rfl) rfl rfl hl.1 rfl (lv_room (Nat.le_of_ble_eq_true rfl)) dX3_addedOften_18 ⟨Nat.zero_le _, Nat.zero_le _⟩) ?_
  refine lv_istore (lv' := [(5, .int (nI (addK (Kd k) (Wd k) (addO (Kd k) (Wd k) a b i) b))), (6, .int (nI i)), (0, .ref h3), (1, .int (nI k)), (2, .int (nI a)), (3, .int (nI b)), (4, .int (nI t))]) hx hb dX3_addedOften_21 hl (by decide) rfl (fun ls hl => ?_)
  refine lv_iinc (v := (nI (i + 1))) (lv' := [(6, .int (nI (i + 1))), (5, .int (nI (addK (Kd k) (Wd k) (addO (Kd k) (Wd k) a b i) b))), (0, .ref h3), (1, .int (nI k)), (2, .int (nI a)), (3, .int (nI b)), (4, .int (nI t))]) hx hb dX3_addedOften_23 hl (k := 1) rfl (rn_inc i 1) (by decide) rfl (fun ls hl => ?_)
  refine lv_goto (tgt := 6) hx hb dX3_addedOften_26 (by decide) ?_
  exact ih6 (i + 1) ls ⟨by omega, lv_sub hl [0, 1, 2, 3, 4, 5, 6] rfl⟩ (by omega)
set_option maxHeartbeats 4000000 in
set_option maxRecDepth 100000 in
theorem c_X3_multiplied (l : Launch) (dC : Nat → ClassId) (dI : Nat → Nat → Nat) (cI cJ cS : ClassId) (h3 hk hw hs : Nat) (n h rg sp : Nat) (kf wf sf : Nat → Int32) (Kd Wd Sh : Nat → Nat) (k a b : Nat) (ok : wOk n Kd Wd) (fk : isA n kf Kd) (fw : isA n wf Wd) (hk2 : k < n) (ha : a < Wd k) (hb2 : b < Wd k) : Met l yX3_multiplied wsX3_multiplied ({ frames := 5, cells := 0, slots := 0, locals := 118 }) (va_Pc [.ref h3, .int (nI k), .int (nI a), .int (nI b)] (rB (dC, dI) vwCl [(h3, .inr (3, [.int (nI n), .int (nI h), .int (nI rg), .int (nI sp), .ref hk, .ref hw, .ref hs])), (hk, .inl (cI, 6, .inl kf)), (hw, .inl (cI, 6, .inl wf)), (hs, .inl (cI, 6, .inl sf))] (tyz cI cJ cS))) (QcRead (nI (addO (Kd k) (Wd k) 0 a b))) 0 0 (fun _ => False) := by
  refine Met.ofW (cc := cX3_multiplied) (maxL := 4) (ret := (some .int)) (by decide) rfl ?_
  intro p e s m args below meth c s₁ B hml hv
  obtain ⟨rfl, hP, hKK⟩ := hv
  have hK := hKK.1
  have hx := B.exec
  have hb := B.bytes
  have hr := B.returns
  have hts := atoms_spec (ws := wsX3_multiplied) B.pre
  have hown : s.vm.findClass RX3 = some m.cls := findClass_of_methodNamed B.named
  have hlocks := B.notSynchronized
  have hl := lv_entry ([.ref h3, .int (nI k), .int (nI a), .int (nI b)]) (n := 4) (Nat.le_of_ble_eq_true rfl)
  rw [lg_entry_eq]
  generalize (lg_sl ([.ref h3, .int (nI k), .int (nI a), .int (nI b)]) ++ List.replicate (4 - (lg_sl ([.ref h3, .int (nI k), .int (nI a), .int (nI b)])).length) Slot.unset).toArray = ls at hl ⊢
  have hl : lv_has ls 4 [(0, .ref h3), (1, .int (nI k)), (2, .int (nI a)), (3, .int (nI b))] := hl
  have hn6 := ok.1
  have hw2 := ok.2.2.1 k hk2
  refine lv_aload_n hx hb dX3_multiplied_0 rfl (lv_at hl 0 rfl) ?_
  refine lv_iload_n hx hb dX3_multiplied_1 rfl (lv_at hl 1 rfl) ?_
  refine lv_iconst (v := (nI 0)) hx hb dX3_multiplied_2 (by decide) ?_
  refine lv_iload_n hx hb dX3_multiplied_3 rfl (lv_at hl 2 rfl) ?_
  refine lv_iload_n hx hb dX3_multiplied_4 rfl (lv_at hl 3 rfl) ?_
  refine rr_callR (va_runV (As := [.int (nI k), .int (nI 0), .int (nI a), .int (nI b)]) (rest := []) ⟨hx, hb, hml, hown, hts⟩ (c_X3_addedOften l dC dI cI cJ cS h3 hk hw hs n h rg sp kf wf sf Kd Wd Sh k 0 a b (by first | assumption | omega) (by first | assumption | omega) (by first | assumption | omega) (by first | assumption | omega) (by first | assumption | omega) (by first | assumption | omega) (by first | assumption | omega)) (cwV 4 hts gX3_multiplied_X3_addedOften rfl rfl rfl (by decide +kernel) ⟨Nat.le_of_ble_eq_true rfl, Nat.le_of_ble_eq_true rfl⟩) (rr_preV hKK hP rfl rfl) rfl rfl hl.1 rfl (lv_room (Nat.le_of_ble_eq_true rfl)) dX3_multiplied_5 ⟨Nat.zero_le _, Nat.zero_le _⟩) ?_
  exact rr_iret hx hb hr hlocks dX3_multiplied_8 (rfl)
set_option maxHeartbeats 4000000 in
set_option maxRecDepth 100000 in
theorem c_X3_isWrong (l : Launch) (dC : Nat → ClassId) (dI : Nat → Nat → Nat) (cI cJ cS : ClassId) (h3 hk hw hs : Nat) (n h rg sp : Nat) (kf wf sf : Nat → Int32) (Kd Wd Sh : Nat → Nat) (k a b : Nat) (ok : wOk n Kd Wd) (fk : isA n kf Kd) (fw : isA n wf Wd) (hk2 : k < n) (ha : a < Wd k) (hb2 : b < Wd k) : Met l yX3_isWrong wsX3_isWrong ({ frames := 4, cells := 0, slots := 0, locals := 92 }) (va_Pc [.ref h3, .int (nI k), .int (nI a), .int (nI b)] (rB (dC, dI) vwCl [(h3, .inr (3, [.int (nI n), .int (nI h), .int (nI rg), .int (nI sp), .ref hk, .ref hw, .ref hs])), (hk, .inl (cI, 6, .inl kf)), (hw, .inl (cI, 6, .inl wf)), (hs, .inl (cI, 6, .inl sf))] (tyz cI cJ cS))) (QcRead (bi (wrongB (Kd k) (Wd k) a b))) 0 0 (fun _ => False) := by
  refine Met.ofW (cc := cX3_isWrong) (maxL := 4) (ret := (some .boolean)) (by decide) rfl ?_
  intro p e s m args below meth c s₁ B hml hv
  obtain ⟨rfl, hP, hKK⟩ := hv
  have hK := hKK.1
  have hx := B.exec
  have hb := B.bytes
  have hr := B.returns
  have hts := atoms_spec (ws := wsX3_isWrong) B.pre
  have hown : s.vm.findClass RX3 = some m.cls := findClass_of_methodNamed B.named
  have hlocks := B.notSynchronized
  have hiX3 : ∀ w ∈ wsX30, w ∈ wsX3_isWrong := by decide +kernel
  have hl := lv_entry ([.ref h3, .int (nI k), .int (nI a), .int (nI b)]) (n := 4) (Nat.le_of_ble_eq_true rfl)
  rw [lg_entry_eq]
  generalize (lg_sl ([.ref h3, .int (nI k), .int (nI a), .int (nI b)]) ++ List.replicate (4 - (lg_sl ([.ref h3, .int (nI k), .int (nI a), .int (nI b)])).length) Slot.unset).toArray = ls at hl ⊢
  have hl : lv_has ls 4 [(0, .ref h3), (1, .int (nI k)), (2, .int (nI a)), (3, .int (nI b))] := hl
  have hn6 := ok.1
  have hw2 := ok.2.2.1 k hk2
  have hal := addK_lt (Kd k) ha hb2
  have hpl := plainA_lt a b (show 0 < Wd k by omega)
  refine lv_aload_n hx hb dX3_isWrong_0 rfl (lv_at hl 0 rfl) ?_
  refine lv_iload_n hx hb dX3_isWrong_1 rfl (lv_at hl 1 rfl) ?_
  refine lv_iload_n hx hb dX3_isWrong_2 rfl (lv_at hl 2 rfl) ?_
  refine lv_iload_n hx hb dX3_isWrong_3 rfl (lv_at hl 3 rfl) ?_
  refine rr_callR (va_runV (As := [.int (nI k), .int (nI a), .int (nI b)]) (rest := []) ⟨hx, hb, hml, hown, hts⟩ (c_X3_added l dC dI cI cJ cS h3 hk hw hs n h rg sp kf wf sf Kd Wd Sh k a b (by first | assumption | omega) (by first | assumption | omega) (by first | assumption | omega) (by first | assumption | omega) (by first | assumption | omega) (by first | assumption | omega)) (cwV 3 hts gX3_isWrong_X3_added rfl rfl rfl (by decide +kernel) ⟨Nat.le_of_ble_eq_true rfl, Nat.le_of_ble_eq_true rfl⟩) (rr_preV hKK hP rfl rfl) rfl rfl hl.1 rfl (lv_room (Nat.le_of_ble_eq_true rfl)) dX3_isWrong_4 ⟨Nat.zero_le _, Nat.zero_le _⟩) ?_
  refine lv_aload_n hx hb dX3_isWrong_7 rfl (lv_at hl 0 rfl) ?_
  refine va_get (D := (dC, dI)) (ci := 3) (v := .ref hw) (C := RX3) (T := TX3) (N := 7) hx hb hts hiX3 hown hK hP 0 rfl rfl 5 (by decide) (hts (.fieldLink RX3 22 "RestRegisters$Wheels" "widths" "[I") (by decide +kernel)) (fun _ h9 => h9) rfl dX3_isWrong_8 ?_
  refine lv_iload_n hx hb dX3_isWrong_11 rfl (lv_at hl 1 rfl) ?_
  refine rn_iald hx hb hK hP 2 0 rfl rfl (i := k) (by omega) (by decide) (v := (nI (Wd k))) (fw k (by omega)) dX3_isWrong_12 ?_
  have hv12 := ok.2.2.1 k (by omega)
  refine lv_iload_n hx hb dX3_isWrong_13 rfl (lv_at hl 2 rfl) ?_
  refine lv_iload_n hx hb dX3_isWrong_14 rfl (lv_at hl 3 rfl) ?_
  refine rr_callR (va_runS (As := [.int (nI (Wd k)), .int (nI a), .int (nI b)]) (rest := [.int (nI (addK (Kd k) (Wd k) a b))]) ⟨hx, hb, hml, hown, hts⟩ (c_X3_addedPlain l (Wd k) a b (by first | assumption | omega) (by first | assumption | omega) (by first | assumption | omega) (by first | assumption | omega)) (va_cwS 3 hts gX3_isWrong_X3_addedPlain rfl rfl rfl (by decide +kernel) ⟨Nat.le_of_ble_eq_true rfl, Nat.le_of_ble_eq_true rfl⟩) rr_preT rfl rfl hl.1 rfl (lv_room (Nat.le_of_ble_eq_true rfl)) dX3_isWrong_15 ⟨Nat.zero_le _, Nat.zero_le _⟩) ?_
  refine rn_icmp_eq (tgt := 25) hx hb dX3_isWrong_18 (by decide) (by omega) (by omega) (fun c18 => ?_) (fun c18 => ?_)
  · skip
    refine lv_iconst (v := (nI 0)) hx hb dX3_isWrong_25 (by decide) ?_
    refine rr_top (y := bi false) rfl ?_
    exact rr_zret hx hb hr hlocks dX3_isWrong_26 (by unfold wrongB; first | exact (decide_eq_true c18).symm | exact (decide_eq_false (fun q => q c18)).symm)
  refine lv_iconst (v := (nI 1)) hx hb dX3_isWrong_21 (by decide) ?_
  refine lv_goto (tgt := 26) hx hb dX3_isWrong_22 (by decide) ?_
  refine rr_top (y := bi true) rfl ?_
  exact rr_zret hx hb hr hlocks dX3_isWrong_26 (by unfold wrongB; first | exact (decide_eq_true c18).symm | exact (decide_eq_false (fun q => q c18)).symm)
set_option maxHeartbeats 4000000 in
set_option maxRecDepth 100000 in
theorem c_X3_wrongSums (l : Launch) (dC : Nat → ClassId) (dI : Nat → Nat → Nat) (cI cJ cS : ClassId) (h3 hk hw hs : Nat) (n h rg sp : Nat) (kf wf sf : Nat → Int32) (Kd Wd Sh : Nat → Nat) (k : Nat) (ok : wOk n Kd Wd) (fk : isA n kf Kd) (fw : isA n wf Wd) (hk2 : k < n) : Met l yX3_wrongSums wsX3_wrongSums ({ frames := 5, cells := 0, slots := 0, locals := 115 }) (va_Pc [.ref h3, .int (nI k)] (rB (dC, dI) vwCl [(h3, .inr (3, [.int (nI n), .int (nI h), .int (nI rg), .int (nI sp), .ref hk, .ref hw, .ref hs])), (hk, .inl (cI, 6, .inl kf)), (hw, .inl (cI, 6, .inl wf)), (hs, .inl (cI, 6, .inl sf))] (tyz cI cJ cS))) (QcRead (nI (wrS (Kd k) (Wd k) (Wd k)))) 0 0 (fun _ => False) := by
  refine Met.ofW (cc := cX3_wrongSums) (maxL := 5) (ret := (some .int)) (by decide) rfl ?_
  intro p e s m args below meth c s₁ B hml hv
  obtain ⟨rfl, hP, hKK⟩ := hv
  have hK := hKK.1
  have hx := B.exec
  have hb := B.bytes
  have hr := B.returns
  have hts := atoms_spec (ws := wsX3_wrongSums) B.pre
  have hown : s.vm.findClass RX3 = some m.cls := findClass_of_methodNamed B.named
  have hlocks := B.notSynchronized
  have hiX3 : ∀ w ∈ wsX30, w ∈ wsX3_wrongSums := by decide +kernel
  have hl := lv_entry ([.ref h3, .int (nI k)]) (n := 5) (Nat.le_of_ble_eq_true rfl)
  rw [lg_entry_eq]
  generalize (lg_sl ([.ref h3, .int (nI k)]) ++ List.replicate (5 - (lg_sl ([.ref h3, .int (nI k)])).length) Slot.unset).toArray = ls at hl ⊢
  have hl : lv_has ls 5 [(0, .ref h3), (1, .int (nI k))] := hl
  have hn6 := ok.1
  have hw2 := ok.2.2.1 k hk2
  refine lv_iconst (v := (nI 0)) hx hb dX3_wrongSums_0 (by decide) ?_
  refine lv_istore_n (lv' := [(2, .int (nI 0)), (0, .ref h3), (1, .int (nI k))]) hx hb dX3_wrongSums_1 rfl hl (by decide) rfl (fun ls hl => ?_)
  refine lv_iconst (v := (nI 0)) hx hb dX3_wrongSums_2 (by decide) ?_
  refine lv_istore_n (lv' := [(3, .int (nI 0)), (2, .int (nI 0)), (0, .ref h3), (1, .int (nI k))]) hx hb dX3_wrongSums_3 rfl hl (by decide) rfl (fun ls hl => ?_)
  refine rl1 (A1 := Nat) (fun ls => W p l e _ s m _ below meth c s.heap [] 0 0 _ (F0 m 4 ls [])) (fun a ls => a ≤ Wd k ∧ lv_has ls 5 [(3, .int (nI a)), (2, .int (nI (wrS (Kd k) (Wd k) a))), (0, .ref h3), (1, .int (nI k))]) (fun a => Wd k - a) ?_ 0 ls ⟨by omega, lv_sub hl [0, 1, 2, 3] rfl⟩
  rintro a ls ⟨ha, hl⟩ ih4
  refine lv_iload_n hx hb dX3_wrongSums_4 rfl (lv_at hl 0 rfl) ?_
  refine lv_aload_n hx hb dX3_wrongSums_5 rfl (lv_at hl 2 rfl) ?_
  refine va_get (D := (dC, dI)) (ci := 3) (v := .ref hw) (C := RX3) (T := TX3) (N := 7) hx hb hts hiX3 hown hK hP 0 rfl rfl 5 (by decide) (hts (.fieldLink RX3 22 "RestRegisters$Wheels" "widths" "[I") (by decide +kernel)) (fun _ h9 => h9) rfl dX3_wrongSums_6 ?_
  refine lv_iload_n hx hb dX3_wrongSums_9 rfl (lv_at hl 3 rfl) ?_
  refine rn_iald hx hb hK hP 2 0 rfl rfl (i := k) (by omega) (by decide) (v := (nI (Wd k))) (fw k (by omega)) dX3_wrongSums_10 ?_
  have hv10 := ok.2.2.1 k (by omega)
  refine rn_icmp_ge (tgt := 59) hx hb dX3_wrongSums_11 (by decide) (by omega) (by omega) (fun c11 => ?_) (fun c11 => ?_)
  · skip
    refine lv_iload_n hx hb dX3_wrongSums_59 rfl (lv_at hl 1 rfl) ?_
    exact rr_iret hx hb hr hlocks dX3_wrongSums_60 (by rw [Nat.le_antisymm ha c11])
  refine lv_iconst (v := (nI 0)) hx hb dX3_wrongSums_14 (by decide) ?_
  refine lv_istore (lv' := [(4, .int (nI 0)), (3, .int (nI a)), (2, .int (nI (wrS (Kd k) (Wd k) a))), (0, .ref h3), (1, .int (nI k))]) hx hb dX3_wrongSums_15 hl (by decide) rfl (fun ls hl => ?_)
  refine rl1 (A1 := Nat) (fun ls => W p l e _ s m _ below meth c s.heap [] 0 0 _ (F0 m 17 ls [])) (fun b ls => b ≤ Wd k ∧ lv_has ls 5 [(4, .int (nI b)), (3, .int (nI a)), (2, .int (nI (wrS (Kd k) (Wd k) a + wrR (Kd k) (Wd k) a b))), (0, .ref h3), (1, .int (nI k))]) (fun b => Wd k - b) ?_ 0 ls ⟨by omega, lv_sub hl [0, 1, 2, 3, 4] rfl⟩
  rintro b ls ⟨hb3, hl⟩ ih17
  refine lv_iload hx hb dX3_wrongSums_17 (lv_at hl 0 rfl) ?_
  refine lv_aload_n hx hb dX3_wrongSums_19 rfl (lv_at hl 3 rfl) ?_
  refine va_get (D := (dC, dI)) (ci := 3) (v := .ref hw) (C := RX3) (T := TX3) (N := 7) hx hb hts hiX3 hown hK hP 0 rfl rfl 5 (by decide) (hts (.fieldLink RX3 22 "RestRegisters$Wheels" "widths" "[I") (by decide +kernel)) (fun _ h9 => h9) rfl dX3_wrongSums_20 ?_
  refine lv_iload_n hx hb dX3_wrongSums_23 rfl (lv_at hl 4 rfl) ?_
  refine rn_iald hx hb hK hP 2 0 rfl rfl (i := k) (by omega) (by decide) (v := (nI (Wd k))) (fw k (by omega)) dX3_wrongSums_24 ?_
  have hv24 := ok.2.2.1 k (by omega)
  refine rn_icmp_ge (tgt := 53) hx hb dX3_wrongSums_25 (by decide) (by omega) (by omega) (fun c25 => ?_) (fun c25 => ?_)
  · skip
    have eb : b = Wd k := Nat.le_antisymm hb3 c25
    subst eb
    refine lv_iinc (v := (nI (a + 1))) (lv' := [(3, .int (nI (a + 1))), (4, .int (nI (Wd k))), (2, .int (nI (wrS (Kd k) (Wd k) (a + 1)))), (0, .ref h3), (1, .int (nI k))]) hx hb dX3_wrongSums_53 hl (k := 1) rfl (rn_inc a 1) (by decide) rfl (fun ls hl => ?_)
    refine lv_goto (tgt := 4) hx hb dX3_wrongSums_56 (by decide) ?_
    exact ih4 (a + 1) ls ⟨by omega, lv_sub hl [0, 2, 3, 4] rfl⟩ (by omega)
  refine lv_iload_n hx hb dX3_wrongSums_28 rfl (lv_at hl 2 rfl) ?_
  refine lv_aload_n hx hb dX3_wrongSums_29 rfl (lv_at hl 3 rfl) ?_
  refine lv_iload_n hx hb dX3_wrongSums_30 rfl (lv_at hl 4 rfl) ?_
  refine lv_iload_n hx hb dX3_wrongSums_31 rfl (lv_at hl 1 rfl) ?_
  refine lv_iload hx hb dX3_wrongSums_32 (lv_at hl 0 rfl) ?_
  refine rr_callR (va_runV (As := [.int (nI k), .int (nI a), .int (nI b)]) (rest := [.int (nI (wrS (Kd k) (Wd k) a + wrR (Kd k) (Wd k) a b))]) ⟨hx, hb, hml, hown, hts⟩ (c_X3_isWrong l dC dI cI cJ cS h3 hk hw hs n h rg sp kf wf sf Kd Wd Sh k a b (by first | assumption | omega) (by first | assumption | omega) (by first | assumption | omega) (by first | assumption | omega) (by first | assumption | omega) (by first | assumption | omega)) (cwV 3 hts gX3_wrongSums_X3_isWrong rfl rfl rfl (by decide +kernel) ⟨Nat.le_of_ble_eq_true rfl, Nat.le_of_ble_eq_true rfl⟩) (rr_preV hKK hP rfl rfl) rfl rfl hl.1 rfl (lv_room (Nat.le_of_ble_eq_true rfl)) dX3_wrongSums_34 ⟨Nat.zero_le _, Nat.zero_le _⟩) ?_
  refine rb_if_eq (tgt := 44) hx hb dX3_wrongSums_37 (by decide) (fun c37 => ?_) (fun c37 => ?_)
  · skip
    refine lv_iconst (v := (nI 0)) hx hb dX3_wrongSums_44 (by decide) ?_
    refine rn_iadd hx hb dX3_wrongSums_45 ?_
    refine rn_top (y := wrS (Kd k) (Wd k) a + wrR (Kd k) (Wd k) a (b + 1)) (by rw [wrR, c37, Nat.add_assoc]; rfl) ?_
    refine lv_istore_n (lv' := [(2, .int (nI (wrS (Kd k) (Wd k) a + wrR (Kd k) (Wd k) a (b + 1)))), (4, .int (nI b)), (3, .int (nI a)), (0, .ref h3), (1, .int (nI k))]) hx hb dX3_wrongSums_46 rfl hl (by decide) rfl (fun ls hl => ?_)
    refine lv_iinc (v := (nI (b + 1))) (lv' := [(4, .int (nI (b + 1))), (2, .int (nI (wrS (Kd k) (Wd k) a + wrR (Kd k) (Wd k) a (b + 1)))), (3, .int (nI a)), (0, .ref h3), (1, .int (nI k))]) hx hb dX3_wrongSums_47 hl (k := 1) rfl (rn_inc b 1) (by decide) rfl (fun ls hl => ?_)
    refine lv_goto (tgt := 17) hx hb dX3_wrongSums_50 (by decide) ?_
    exact ih17 (b + 1) ls ⟨by omega, lv_sub hl [0, 2, 1, 3, 4] rfl⟩ (by omega)
  refine lv_iconst (v := (nI 1)) hx hb dX3_wrongSums_40 (by decide) ?_
  refine lv_goto (tgt := 45) hx hb dX3_wrongSums_41 (by decide) ?_
  refine rn_iadd hx hb dX3_wrongSums_45 ?_
  refine rn_top (y := wrS (Kd k) (Wd k) a + wrR (Kd k) (Wd k) a (b + 1)) (by rw [wrR, c37, Nat.add_assoc]; rfl) ?_
  refine lv_istore_n (lv' := [(2, .int (nI (wrS (Kd k) (Wd k) a + wrR (Kd k) (Wd k) a (b + 1)))), (4, .int (nI b)), (3, .int (nI a)), (0, .ref h3), (1, .int (nI k))]) hx hb dX3_wrongSums_46 rfl hl (by decide) rfl (fun ls hl => ?_)
  refine lv_iinc (v := (nI (b + 1))) (lv' := [(4, .int (nI (b + 1))), (2, .int (nI (wrS (Kd k) (Wd k) a + wrR (Kd k) (Wd k) a (b + 1)))), (3, .int (nI a)), (0, .ref h3), (1, .int (nI k))]) hx hb dX3_wrongSums_47 hl (k := 1) rfl (rn_inc b 1) (by decide) rfl (fun ls hl => ?_)
  refine lv_goto (tgt := 17) hx hb dX3_wrongSums_50 (by decide) ?_
  exact ih17 (b + 1) ls ⟨by omega, lv_sub hl [0, 2, 1, 3, 4] rfl⟩ (by omega)
set_option maxHeartbeats 4000000 in
set_option maxRecDepth 100000 in
theorem c_X3_round (l : Launch) (dC : Nat → ClassId) (dI : Nat → Nat → Nat) (cI cJ cS : ClassId) (h3 hk hw hs : Nat) (n h rg sp : Nat) (kf wf sf : Nat → Int32) (Kd Wd Sh : Nat → Nat) (k a b : Nat) (ok : wOk n Kd Wd) (fk : isA n kf Kd) (fw : isA n wf Wd) (hk2 : k < n) (ha : a < Wd k) (hb2 : b < Wd k) : Met l yX3_round wsX3_round ({ frames := 4, cells := 0, slots := 0, locals := 92 }) (va_Pc [.ref h3, .int (nI k), .int (nI a), .int (nI b)] (rB (dC, dI) vwCl [(h3, .inr (3, [.int (nI n), .int (nI h), .int (nI rg), .int (nI sp), .ref hk, .ref hw, .ref hs])), (hk, .inl (cI, 6, .inl kf)), (hw, .inl (cI, 6, .inl wf)), (hs, .inl (cI, 6, .inl sf))] (tyz cI cJ cS))) (QcRead (nI (rnd (Kd k) (Wd k) a b))) 0 0 (fun _ => False) := by
  refine Met.ofW (cc := cX3_round) (maxL := 6) (ret := (some .int)) (by decide) rfl ?_
  intro p e s m args below meth c s₁ B hml hv
  obtain ⟨rfl, hP, hKK⟩ := hv
  have hK := hKK.1
  have hx := B.exec
  have hb := B.bytes
  have hr := B.returns
  have hts := atoms_spec (ws := wsX3_round) B.pre
  have hown : s.vm.findClass RX3 = some m.cls := findClass_of_methodNamed B.named
  have hlocks := B.notSynchronized
  have hiX3 : ∀ w ∈ wsX30, w ∈ wsX3_round := by decide +kernel
  have hl := lv_entry ([.ref h3, .int (nI k), .int (nI a), .int (nI b)]) (n := 6) (Nat.le_of_ble_eq_true rfl)
  rw [lg_entry_eq]
  generalize (lg_sl ([.ref h3, .int (nI k), .int (nI a), .int (nI b)]) ++ List.replicate (6 - (lg_sl ([.ref h3, .int (nI k), .int (nI a), .int (nI b)])).length) Slot.unset).toArray = ls at hl ⊢
  have hl : lv_has ls 6 [(0, .ref h3), (1, .int (nI k)), (2, .int (nI a)), (3, .int (nI b))] := hl
  have hn6 := ok.1
  have hw2 := ok.2.2.1 k hk2
  refine lv_iload_n hx hb dX3_round_0 rfl (lv_at hl 2 rfl) ?_
  refine lv_istore (lv' := [(4, .int (nI a)), (0, .ref h3), (1, .int (nI k)), (2, .int (nI a)), (3, .int (nI b))]) hx hb dX3_round_1 hl (by decide) rfl (fun ls hl => ?_)
  refine lv_iconst (v := (nI 1)) hx hb dX3_round_3 (by decide) ?_
  refine lv_istore (lv' := [(5, .int (nI 1)), (4, .int (nI a)), (0, .ref h3), (1, .int (nI k)), (2, .int (nI a)), (3, .int (nI b))]) hx hb dX3_round_4 hl (by decide) rfl (fun ls hl => ?_)
  refine rl1 (A1 := Nat) (fun ls => W p l e _ s m _ below meth c s.heap [] 0 0 _ (F0 m 6 ls [])) (fun t ls => t ≤ Wd k ∧ rnd (Kd k) (Wd k) a b = fstN (fun t => decide (addO (Kd k) (Wd k) a b t = a)) (t + 1) (Wd k - t) ∧ lv_has ls 6 [(5, .int (nI (t + 1))), (4, .int (nI (addO (Kd k) (Wd k) a b t))), (0, .ref h3), (1, .int (nI k)), (2, .int (nI a)), (3, .int (nI b))]) (fun t => Wd k - t) ?_ 0 ls ⟨by omega, rfl, lv_sub hl [0, 1, 2, 3, 4, 5] rfl⟩
  rintro t ls ⟨ht2, hf, hl⟩ ih6
  refine lv_iload hx hb dX3_round_6 (lv_at hl 0 rfl) ?_
  refine lv_aload_n hx hb dX3_round_8 rfl (lv_at hl 2 rfl) ?_
  refine va_get (D := (dC, dI)) (ci := 3) (v := .ref hw) (C := RX3) (T := TX3) (N := 7) hx hb hts hiX3 hown hK hP 0 rfl rfl 5 (by decide) (hts (.fieldLink RX3 22 "RestRegisters$Wheels" "widths" "[I") (by decide +kernel)) (fun _ h9 => h9) rfl dX3_round_9 ?_
  refine lv_iload_n hx hb dX3_round_12 rfl (lv_at hl 3 rfl) ?_
  refine rn_iald hx hb hK hP 2 0 rfl rfl (i := k) (by omega) (by decide) (v := (nI (Wd k))) (fw k (by omega)) dX3_round_13 ?_
  have hv13 := ok.2.2.1 k (by omega)
  refine rn_icmp_gt (tgt := 42) hx hb dX3_round_14 (by decide) (by omega) (by omega) (fun c14 => ?_) (fun c14 => ?_)
  · skip
    refine lv_iconst (v := (nI 0)) hx hb dX3_round_42 (by decide) ?_
    exact rr_iret hx hb hr hlocks dX3_round_43 (by rw [hf, show Wd k - t = 0 by omega]; rfl)
  refine lv_aload_n hx hb dX3_round_17 rfl (lv_at hl 2 rfl) ?_
  refine lv_iload_n hx hb dX3_round_18 rfl (lv_at hl 3 rfl) ?_
  refine lv_iload hx hb dX3_round_19 (lv_at hl 1 rfl) ?_
  refine lv_iload_n hx hb dX3_round_21 rfl (lv_at hl 5 rfl) ?_
  refine rr_callR (va_runV (As := [.int (nI k), .int (nI (addO (Kd k) (Wd k) a b t)), .int (nI b)]) (rest := []) ⟨hx, hb, hml, hown, hts⟩ (c_X3_added l dC dI cI cJ cS h3 hk hw hs n h rg sp kf wf sf Kd Wd Sh k (addO (Kd k) (Wd k) a b t) b (by first | assumption | omega) (by first | assumption | omega) (by first | assumption | omega) (by first | assumption | omega) (addO_lt ha hb2 t) (by first | assumption | omega)) (cwV 3 hts gX3_round_X3_added rfl rfl rfl (by decide +kernel) ⟨Nat.le_of_ble_eq_true rfl, Nat.le_of_ble_eq_true rfl⟩) (rr_preV hKK hP rfl rfl) rfl rfl hl.1 rfl (lv_room (Nat.le_of_ble_eq_true rfl)) dX3_round_22 ⟨Nat.zero_le _, Nat.zero_le _⟩) ?_
  refine lv_istore (lv' := [(4, .int (nI (addK (Kd k) (Wd k) (addO (Kd k) (Wd k) a b t) b))), (5, .int (nI (t + 1))), (0, .ref h3), (1, .int (nI k)), (2, .int (nI a)), (3, .int (nI b))]) hx hb dX3_round_25 hl (by decide) rfl (fun ls hl => ?_)
  refine lv_iload hx hb dX3_round_27 (lv_at hl 0 rfl) ?_
  refine lv_iload_n hx hb dX3_round_29 rfl (lv_at hl 4 rfl) ?_
  refine rn_icmp_ne (tgt := 36) hx hb dX3_round_30 (by decide) (addK_b (addO_lt ha hb2 t) hb2 hw2) (by omega) (fun c30 => ?_) (fun c30 => ?_)
  · skip
    have hlt2 := addO_lt (kd := Kd k) ha hb2 (t + 1)
    refine lv_iinc (v := (nI (t + 1 + 1))) (lv' := [(5, .int (nI (t + 1 + 1))), (4, .int (nI (addK (Kd k) (Wd k) (addO (Kd k) (Wd k) a b t) b))), (0, .ref h3), (1, .int (nI k)), (2, .int (nI a)), (3, .int (nI b))]) hx hb dX3_round_36 hl (k := 1) rfl (rn_inc (t + 1) 1) (by decide) rfl (fun ls hl => ?_)
    refine lv_goto (tgt := 6) hx hb dX3_round_39 (by decide) ?_
    exact ih6 (t + 1) ls ⟨by omega, by rw [hf, show Wd k - t = (Wd k - (t + 1)) + 1 by omega, fstN, if_neg (fun q => c30 (show addO (Kd k) (Wd k) a b (t + 1) = a from of_decide_eq_true q))], lv_sub hl [0, 1, 2, 3, 4, 5] rfl⟩ (by omega)
  refine lv_iload hx hb dX3_round_33 (lv_at hl 1 rfl) ?_
  exact rr_iret hx hb hr hlocks dX3_round_35 (by rw [hf, show Wd k - t = (Wd k - (t + 1)) + 1 by omega, fstN, if_pos (decide_eq_true (show addO (Kd k) (Wd k) a b (t + 1) = a from c30))])
set_option maxHeartbeats 4000000 in
set_option maxRecDepth 100000 in
theorem c_X3_plainOnes (l : Launch) (dC : Nat → ClassId) (dI : Nat → Nat → Nat) (cI cJ cS : ClassId) (h3 hk hw hs : Nat) (n h rg sp : Nat) (kf wf sf : Nat → Int32) (Kd Wd Sh : Nat → Nat) (ok : wOk n Kd Wd) (fk : isA n kf Kd) : Met l yX3_plainOnes wsX3_plainOnes ({ frames := 0, cells := 0, slots := 0, locals := 0 }) (va_Pc [.ref h3] (rB (dC, dI) vwCl [(h3, .inr (3, [.int (nI n), .int (nI h), .int (nI rg), .int (nI sp), .ref hk, .ref hw, .ref hs])), (hk, .inl (cI, 6, .inl kf)), (hw, .inl (cI, 6, .inl wf)), (hs, .inl (cI, 6, .inl sf))] (tyz cI cJ cS))) (QcRead (nI (orS (fun j => decide (Kd j = 0)) n))) 0 0 (fun _ => False) := by
  refine Met.ofW (cc := cX3_plainOnes) (maxL := 3) (ret := (some .int)) (by decide) rfl ?_
  intro p e s m args below meth c s₁ B hml hv
  obtain ⟨rfl, hP, hKK⟩ := hv
  have hK := hKK.1
  have hx := B.exec
  have hb := B.bytes
  have hr := B.returns
  have hts := atoms_spec (ws := wsX3_plainOnes) B.pre
  have hown : s.vm.findClass RX3 = some m.cls := findClass_of_methodNamed B.named
  have hlocks := B.notSynchronized
  have hiX3 : ∀ w ∈ wsX30, w ∈ wsX3_plainOnes := by decide +kernel
  have hl := lv_entry ([.ref h3]) (n := 3) (Nat.le_of_ble_eq_true rfl)
  rw [lg_entry_eq]
  generalize (lg_sl ([.ref h3]) ++ List.replicate (3 - (lg_sl ([.ref h3])).length) Slot.unset).toArray = ls at hl ⊢
  have hl : lv_has ls 3 [(0, .ref h3)] := hl
  have hn6 := ok.1
  refine lv_iconst (v := (nI 0)) hx hb dX3_plainOnes_0 (by decide) ?_
  refine lv_istore_n (lv' := [(1, .int (nI 0)), (0, .ref h3)]) hx hb dX3_plainOnes_1 rfl hl (by decide) rfl (fun ls hl => ?_)
  refine lv_iconst (v := (nI 0)) hx hb dX3_plainOnes_2 (by decide) ?_
  refine lv_istore_n (lv' := [(2, .int (nI 0)), (1, .int (nI 0)), (0, .ref h3)]) hx hb dX3_plainOnes_3 rfl hl (by decide) rfl (fun ls hl => ?_)
  refine rl1 (A1 := Nat) (fun ls => W p l e _ s m _ below meth c s.heap [] 0 0 _ (F0 m 4 ls [])) (fun k ls => k ≤ n ∧ lv_has ls 3 [(2, .int (nI k)), (1, .int (nI (orS (fun j => decide (Kd j = 0)) k))), (0, .ref h3)]) (fun k => n - k) ?_ 0 ls ⟨by omega, lv_sub hl [0, 1, 2] rfl⟩
  rintro k ls ⟨hi, hl⟩ ih4
  refine lv_iload_n hx hb dX3_plainOnes_4 rfl (lv_at hl 0 rfl) ?_
  refine lv_aload_n hx hb dX3_plainOnes_5 rfl (lv_at hl 2 rfl) ?_
  refine va_get (D := (dC, dI)) (ci := 3) (v := .int (nI n)) (C := RX3) (T := TX3) (N := 7) hx hb hts hiX3 hown hK hP 0 rfl rfl 0 (by decide) (hts (.fieldLink RX3 28 "RestRegisters$Wheels" "size" "I") (by decide +kernel)) (fun _ h9 => h9) rfl dX3_plainOnes_6 ?_
  refine rn_icmp_ge (tgt := 37) hx hb dX3_plainOnes_9 (by decide) (by omega) (by omega) (fun c9 => ?_) (fun c9 => ?_)
  · skip
    refine lv_iload_n hx hb dX3_plainOnes_37 rfl (lv_at hl 1 rfl) ?_
    exact rr_iret hx hb hr hlocks dX3_plainOnes_38 (by rw [Nat.le_antisymm hi c9])
  refine lv_iload_n hx hb dX3_plainOnes_12 rfl (lv_at hl 1 rfl) ?_
  refine lv_aload_n hx hb dX3_plainOnes_13 rfl (lv_at hl 2 rfl) ?_
  refine va_get (D := (dC, dI)) (ci := 3) (v := .ref hk) (C := RX3) (T := TX3) (N := 7) hx hb hts hiX3 hown hK hP 0 rfl rfl 4 (by decide) (hts (.fieldLink RX3 18 "RestRegisters$Wheels" "kinds" "[I") (by decide +kernel)) (fun _ h9 => h9) rfl dX3_plainOnes_14 ?_
  refine lv_iload_n hx hb dX3_plainOnes_17 rfl (lv_at hl 0 rfl) ?_
  refine rn_iald hx hb hK hP 1 0 rfl rfl (i := k) (by omega) (by decide) (v := (nI (Kd k))) (fk k (by omega)) dX3_plainOnes_18 ?_
  have hv18 := ok.2.1 k (by omega)
  refine rn_if_ne (tgt := 28) hx hb dX3_plainOnes_19 (by decide) (by omega) (fun c19 => ?_) (fun c19 => ?_)
  · skip
    refine lv_iconst (v := (nI 0)) hx hb dX3_plainOnes_28 (by decide) ?_
    refine lv_ior hx hb dX3_plainOnes_29 ?_
    refine rr_top (y := (nI (orS (fun j => decide (Kd j = 0)) (k + 1)))) (by rw [or_eq, orS]; first | (rw [if_pos (decide_eq_true c19)]; done) | rw [if_neg (fun q => c19 (of_decide_eq_true q))]) ?_
    refine lv_istore_n (lv' := [(1, .int (nI (orS (fun j => decide (Kd j = 0)) (k + 1)))), (2, .int (nI k)), (0, .ref h3)]) hx hb dX3_plainOnes_30 rfl hl (by decide) rfl (fun ls hl => ?_)
    refine lv_iinc (v := (nI (k + 1))) (lv' := [(2, .int (nI (k + 1))), (1, .int (nI (orS (fun j => decide (Kd j = 0)) (k + 1)))), (0, .ref h3)]) hx hb dX3_plainOnes_31 hl (k := 1) rfl (rn_inc k 1) (by decide) rfl (fun ls hl => ?_)
    refine lv_goto (tgt := 4) hx hb dX3_plainOnes_34 (by decide) ?_
    exact ih4 (k + 1) ls ⟨by omega, lv_sub hl [0, 1, 2] rfl⟩ (by omega)
  refine lv_iconst (v := (nI 1)) hx hb dX3_plainOnes_22 (by decide) ?_
  refine lv_iload_n hx hb dX3_plainOnes_23 rfl (lv_at hl 0 rfl) ?_
  refine lv_ishl hx hb dX3_plainOnes_24 ?_
  refine rr_top (y := (nI (2 ^ k))) (shl_eq (by omega)) ?_
  refine lv_goto (tgt := 29) hx hb dX3_plainOnes_25 (by decide) ?_
  refine lv_ior hx hb dX3_plainOnes_29 ?_
  refine rr_top (y := (nI (orS (fun j => decide (Kd j = 0)) (k + 1)))) (by rw [or_eq, orS]; first | (rw [if_pos (decide_eq_true c19)]; done) | rw [if_neg (fun q => c19 (of_decide_eq_true q))]) ?_
  refine lv_istore_n (lv' := [(1, .int (nI (orS (fun j => decide (Kd j = 0)) (k + 1)))), (2, .int (nI k)), (0, .ref h3)]) hx hb dX3_plainOnes_30 rfl hl (by decide) rfl (fun ls hl => ?_)
  refine lv_iinc (v := (nI (k + 1))) (lv' := [(2, .int (nI (k + 1))), (1, .int (nI (orS (fun j => decide (Kd j = 0)) (k + 1)))), (0, .ref h3)]) hx hb dX3_plainOnes_31 hl (k := 1) rfl (rn_inc k 1) (by decide) rfl (fun ls hl => ?_)
  refine lv_goto (tgt := 4) hx hb dX3_plainOnes_34 (by decide) ?_
  exact ih4 (k + 1) ls ⟨by omega, lv_sub hl [0, 1, 2] rfl⟩ (by omega)
set_option maxHeartbeats 4000000 in
set_option maxRecDepth 100000 in
theorem c_X3_mixedFigure (l : Launch) (dC : Nat → ClassId) (dI : Nat → Nat → Nat) (cI cJ cS : ClassId) (h3 hk hw hs : Nat) (n h rg sp : Nat) (kf wf sf : Nat → Int32) (Kd Wd Sh : Nat → Nat) (v k : Nat) (ok : wOk n Kd Wd) (fw : isA n wf Wd) (hk2 : k < n) (hv2 : v < 2 ^ 31) : Met l yX3_mixedFigure wsX3_mixedFigure ({ frames := 0, cells := 0, slots := 0, locals := 0 }) (va_Pc [.ref h3, .int (nI v), .int (nI k)] (rB (dC, dI) vwCl [(h3, .inr (3, [.int (nI n), .int (nI h), .int (nI rg), .int (nI sp), .ref hk, .ref hw, .ref hs])), (hk, .inl (cI, 6, .inl kf)), (hw, .inl (cI, 6, .inl wf)), (hs, .inl (cI, 6, .inl sf))] (tyz cI cJ cS))) (QcRead (nI (dvs Wd v k % Wd k))) 0 0 (fun _ => False) := by
  refine Met.ofW (cc := cX3_mixedFigure) (maxL := 5) (ret := (some .int)) (by decide) rfl ?_
  intro p e s m args below meth c s₁ B hml hv
  obtain ⟨rfl, hP, hKK⟩ := hv
  have hK := hKK.1
  have hx := B.exec
  have hb := B.bytes
  have hr := B.returns
  have hts := atoms_spec (ws := wsX3_mixedFigure) B.pre
  have hown : s.vm.findClass RX3 = some m.cls := findClass_of_methodNamed B.named
  have hlocks := B.notSynchronized
  have hiX3 : ∀ w ∈ wsX30, w ∈ wsX3_mixedFigure := by decide +kernel
  have hl := lv_entry ([.ref h3, .int (nI v), .int (nI k)]) (n := 5) (Nat.le_of_ble_eq_true rfl)
  rw [lg_entry_eq]
  generalize (lg_sl ([.ref h3, .int (nI v), .int (nI k)]) ++ List.replicate (5 - (lg_sl ([.ref h3, .int (nI v), .int (nI k)])).length) Slot.unset).toArray = ls at hl ⊢
  have hl : lv_has ls 5 [(0, .ref h3), (1, .int (nI v)), (2, .int (nI k))] := hl
  have hn6 := ok.1
  refine lv_iload_n hx hb dX3_mixedFigure_0 rfl (lv_at hl 1 rfl) ?_
  refine lv_istore_n (lv' := [(3, .int (nI v)), (0, .ref h3), (1, .int (nI v)), (2, .int (nI k))]) hx hb dX3_mixedFigure_1 rfl hl (by decide) rfl (fun ls hl => ?_)
  refine lv_iconst (v := (nI 0)) hx hb dX3_mixedFigure_2 (by decide) ?_
  refine lv_istore (lv' := [(4, .int (nI 0)), (3, .int (nI v)), (0, .ref h3), (1, .int (nI v)), (2, .int (nI k))]) hx hb dX3_mixedFigure_3 hl (by decide) rfl (fun ls hl => ?_)
  refine rl1 (A1 := Nat) (fun ls => W p l e _ s m _ below meth c s.heap [] 0 0 _ (F0 m 5 ls [])) (fun j ls => j ≤ k ∧ lv_has ls 5 [(4, .int (nI j)), (3, .int (nI (dvs Wd v j))), (0, .ref h3), (1, .int (nI v)), (2, .int (nI k))]) (fun j => k - j) ?_ 0 ls ⟨by omega, lv_sub hl [0, 1, 2, 3, 4] rfl⟩
  rintro j ls ⟨hi, hl⟩ ih5
  refine lv_iload hx hb dX3_mixedFigure_5 (lv_at hl 0 rfl) ?_
  refine lv_iload_n hx hb dX3_mixedFigure_7 rfl (lv_at hl 4 rfl) ?_
  refine rn_icmp_ge (tgt := 27) hx hb dX3_mixedFigure_8 (by decide) (by omega) (by omega) (fun c8 => ?_) (fun c8 => ?_)
  · skip
    have hd := dvs_le Wd v j
    refine lv_iload_n hx hb dX3_mixedFigure_27 rfl (lv_at hl 1 rfl) ?_
    refine lv_aload_n hx hb dX3_mixedFigure_28 rfl (lv_at hl 2 rfl) ?_
    refine va_get (D := (dC, dI)) (ci := 3) (v := .ref hw) (C := RX3) (T := TX3) (N := 7) hx hb hts hiX3 hown hK hP 0 rfl rfl 5 (by decide) (hts (.fieldLink RX3 22 "RestRegisters$Wheels" "widths" "[I") (by decide +kernel)) (fun _ h9 => h9) rfl dX3_mixedFigure_29 ?_
    refine lv_iload_n hx hb dX3_mixedFigure_32 rfl (lv_at hl 4 rfl) ?_
    refine rn_iald hx hb hK hP 2 0 rfl rfl (i := k) (by omega) (by decide) (v := (nI (Wd k))) (fw k (by omega)) dX3_mixedFigure_33 ?_
    have hv33 := ok.2.2.1 k (by omega)
    refine rn_irem hx hb dX3_mixedFigure_34 (by omega) (by omega) (by omega) ?_
    exact rr_iret hx hb hr hlocks dX3_mixedFigure_35 (by rw [Nat.le_antisymm hi c8])
  have hd := dvs_le Wd v j
  refine lv_iload_n hx hb dX3_mixedFigure_11 rfl (lv_at hl 1 rfl) ?_
  refine lv_aload_n hx hb dX3_mixedFigure_12 rfl (lv_at hl 2 rfl) ?_
  refine va_get (D := (dC, dI)) (ci := 3) (v := .ref hw) (C := RX3) (T := TX3) (N := 7) hx hb hts hiX3 hown hK hP 0 rfl rfl 5 (by decide) (hts (.fieldLink RX3 22 "RestRegisters$Wheels" "widths" "[I") (by decide +kernel)) (fun _ h9 => h9) rfl dX3_mixedFigure_13 ?_
  refine lv_iload hx hb dX3_mixedFigure_16 (lv_at hl 0 rfl) ?_
  refine rn_iald hx hb hK hP 2 0 rfl rfl (i := j) (by omega) (by decide) (v := (nI (Wd j))) (fw j (by omega)) dX3_mixedFigure_18 ?_
  have hv18 := ok.2.2.1 j (by omega)
  refine rn_idiv hx hb dX3_mixedFigure_19 (by omega) (by omega) (by omega) ?_
  refine lv_istore_n (lv' := [(3, .int (nI ((dvs Wd v j) / (Wd j)))), (4, .int (nI j)), (0, .ref h3), (1, .int (nI v)), (2, .int (nI k))]) hx hb dX3_mixedFigure_20 rfl hl (by decide) rfl (fun ls hl => ?_)
  refine lv_iinc (v := (nI (j + 1))) (lv' := [(4, .int (nI (j + 1))), (3, .int (nI ((dvs Wd v j) / (Wd j)))), (0, .ref h3), (1, .int (nI v)), (2, .int (nI k))]) hx hb dX3_mixedFigure_21 hl (k := 1) rfl (rn_inc j 1) (by decide) rfl (fun ls hl => ?_)
  refine lv_goto (tgt := 5) hx hb dX3_mixedFigure_24 (by decide) ?_
  exact ih5 (j + 1) ls ⟨by omega, lv_sub hl [0, 1, 2, 3, 4] rfl⟩ (by omega)
set_option maxHeartbeats 4000000 in
set_option maxRecDepth 100000 in
theorem c_X3_product (l : Launch) (dC : Nat → ClassId) (dI : Nat → Nat → Nat) (cI cJ cS : ClassId) (h3 hk hw hs : Nat) (n h rg sp : Nat) (kf wf sf : Nat → Int32) (Kd Wd Sh : Nat → Nat) (o : Nat) (ok : wOk n Kd Wd) (fw : isA n wf Wd) (ho : o < 64) : Met l yX3_product wsX3_product ({ frames := 1, cells := 0, slots := 0, locals := 21 }) (va_Pc [.ref h3, .int (nI o)] (rB (dC, dI) vwCl [(h3, .inr (3, [.int (nI n), .int (nI h), .int (nI rg), .int (nI sp), .ref hk, .ref hw, .ref hs])), (hk, .inl (cI, 6, .inl kf)), (hw, .inl (cI, 6, .inl wf)), (hs, .inl (cI, 6, .inl sf))] (tyz cI cJ cS))) (QcRead (nI (prO Wd o n))) 0 0 (fun _ => False) := by
  refine Met.ofW (cc := cX3_product) (maxL := 4) (ret := (some .int)) (by decide) rfl ?_
  intro p e s m args below meth c s₁ B hml hv
  obtain ⟨rfl, hP, hKK⟩ := hv
  have hK := hKK.1
  have hx := B.exec
  have hb := B.bytes
  have hr := B.returns
  have hts := atoms_spec (ws := wsX3_product) B.pre
  have hown : s.vm.findClass RX3 = some m.cls := findClass_of_methodNamed B.named
  have hlocks := B.notSynchronized
  have hiX3 : ∀ w ∈ wsX30, w ∈ wsX3_product := by decide +kernel
  have hl := lv_entry ([.ref h3, .int (nI o)]) (n := 4) (Nat.le_of_ble_eq_true rfl)
  rw [lg_entry_eq]
  generalize (lg_sl ([.ref h3, .int (nI o)]) ++ List.replicate (4 - (lg_sl ([.ref h3, .int (nI o)])).length) Slot.unset).toArray = ls at hl ⊢
  have hl : lv_has ls 4 [(0, .ref h3), (1, .int (nI o))] := hl
  have hn6 := ok.1
  refine lv_iconst (v := (nI 1)) hx hb dX3_product_0 (by decide) ?_
  refine lv_istore_n (lv' := [(2, .int (nI 1)), (0, .ref h3), (1, .int (nI o))]) hx hb dX3_product_1 rfl hl (by decide) rfl (fun ls hl => ?_)
  refine lv_iconst (v := (nI 0)) hx hb dX3_product_2 (by decide) ?_
  refine lv_istore_n (lv' := [(3, .int (nI 0)), (2, .int (nI 1)), (0, .ref h3), (1, .int (nI o))]) hx hb dX3_product_3 rfl hl (by decide) rfl (fun ls hl => ?_)
  refine rl1 (A1 := Nat) (fun ls => W p l e _ s m _ below meth c s.heap [] 0 0 _ (F0 m 4 ls [])) (fun k ls => k ≤ n ∧ lv_has ls 4 [(3, .int (nI k)), (2, .int (nI (prO Wd o k))), (0, .ref h3), (1, .int (nI o))]) (fun k => n - k) ?_ 0 ls ⟨by omega, lv_sub hl [0, 1, 2, 3] rfl⟩
  rintro k ls ⟨hi, hl⟩ ih4
  refine lv_iload_n hx hb dX3_product_4 rfl (lv_at hl 0 rfl) ?_
  refine lv_aload_n hx hb dX3_product_5 rfl (lv_at hl 2 rfl) ?_
  refine va_get (D := (dC, dI)) (ci := 3) (v := .int (nI n)) (C := RX3) (T := TX3) (N := 7) hx hb hts hiX3 hown hK hP 0 rfl rfl 0 (by decide) (hts (.fieldLink RX3 28 "RestRegisters$Wheels" "size" "I") (by decide +kernel)) (fun _ h9 => h9) rfl dX3_product_6 ?_
  refine rn_icmp_ge (tgt := 39) hx hb dX3_product_9 (by decide) (by omega) (by omega) (fun c9 => ?_) (fun c9 => ?_)
  · skip
    refine lv_iload_n hx hb dX3_product_39 rfl (lv_at hl 1 rfl) ?_
    exact rr_iret hx hb hr hlocks dX3_product_40 (by rw [Nat.le_antisymm hi c9])
  refine lv_iload_n hx hb dX3_product_12 rfl (lv_at hl 1 rfl) ?_
  refine lv_iload_n hx hb dX3_product_13 rfl (lv_at hl 3 rfl) ?_
  refine lv_iload_n hx hb dX3_product_14 rfl (lv_at hl 0 rfl) ?_
  refine rr_callR (va_runS (As := [.int (nI o), .int (nI k)]) (rest := [.int (nI (prO Wd o k))]) ⟨hx, hb, hml, hown, hts⟩ (c_X3_isIn l o k (by first | assumption | omega) (by first | assumption | omega)) (va_cwS 2 hts gX3_product_X3_isIn rfl rfl rfl (by decide +kernel) ⟨Nat.le_of_ble_eq_true rfl, Nat.le_of_ble_eq_true rfl⟩) rr_preT rfl rfl hl.1 rfl (lv_room (Nat.le_of_ble_eq_true rfl)) dX3_product_15 ⟨Nat.zero_le _, Nat.zero_le _⟩) ?_
  refine rb_if_eq (tgt := 30) hx hb dX3_product_18 (by decide) (fun c18 => ?_) (fun c18 => ?_)
  · skip
    refine lv_iconst (v := (nI 1)) hx hb dX3_product_30 (by decide) ?_
    refine rn_imul hx hb dX3_product_31 ?_
    refine rn_top (y := prO Wd o (k + 1)) (by rw [prO, c18]; rfl) ?_
    refine lv_istore_n (lv' := [(2, .int (nI (prO Wd o (k + 1)))), (3, .int (nI k)), (0, .ref h3), (1, .int (nI o))]) hx hb dX3_product_32 rfl hl (by decide) rfl (fun ls hl => ?_)
    refine lv_iinc (v := (nI (k + 1))) (lv' := [(3, .int (nI (k + 1))), (2, .int (nI (prO Wd o (k + 1)))), (0, .ref h3), (1, .int (nI o))]) hx hb dX3_product_33 hl (k := 1) rfl (rn_inc k 1) (by decide) rfl (fun ls hl => ?_)
    refine lv_goto (tgt := 4) hx hb dX3_product_36 (by decide) ?_
    exact ih4 (k + 1) ls ⟨by omega, lv_sub hl [0, 1, 2, 3] rfl⟩ (by omega)
  refine lv_aload_n hx hb dX3_product_21 rfl (lv_at hl 2 rfl) ?_
  refine va_get (D := (dC, dI)) (ci := 3) (v := .ref hw) (C := RX3) (T := TX3) (N := 7) hx hb hts hiX3 hown hK hP 0 rfl rfl 5 (by decide) (hts (.fieldLink RX3 22 "RestRegisters$Wheels" "widths" "[I") (by decide +kernel)) (fun _ h9 => h9) rfl dX3_product_22 ?_
  refine lv_iload_n hx hb dX3_product_25 rfl (lv_at hl 0 rfl) ?_
  refine rn_iald hx hb hK hP 2 0 rfl rfl (i := k) (by omega) (by decide) (v := (nI (Wd k))) (fw k (by omega)) dX3_product_26 ?_
  have hv26 := ok.2.2.1 k (by omega)
  refine lv_goto (tgt := 31) hx hb dX3_product_27 (by decide) ?_
  refine rn_imul hx hb dX3_product_31 ?_
  refine rn_top (y := prO Wd o (k + 1)) (by rw [prO, c18]; rfl) ?_
  refine lv_istore_n (lv' := [(2, .int (nI (prO Wd o (k + 1)))), (3, .int (nI k)), (0, .ref h3), (1, .int (nI o))]) hx hb dX3_product_32 rfl hl (by decide) rfl (fun ls hl => ?_)
  refine lv_iinc (v := (nI (k + 1))) (lv' := [(3, .int (nI (k + 1))), (2, .int (nI (prO Wd o (k + 1)))), (0, .ref h3), (1, .int (nI o))]) hx hb dX3_product_33 hl (k := 1) rfl (rn_inc k 1) (by decide) rfl (fun ls hl => ?_)
  refine lv_goto (tgt := 4) hx hb dX3_product_36 (by decide) ?_
  exact ih4 (k + 1) ls ⟨by omega, lv_sub hl [0, 1, 2, 3] rfl⟩ (by omega)
set_option maxHeartbeats 4000000 in
set_option maxRecDepth 100000 in
theorem c_X3_blamed (l : Launch) (dC : Nat → ClassId) (dI : Nat → Nat → Nat) (cI cJ cS : ClassId) (h3 hk hw hs : Nat) (n h rg sp : Nat) (kf wf sf : Nat → Int32) (Kd Wd Sh : Nat → Nat) (v : Nat) (ok : wOk n Kd Wd) (fw : isA n wf Wd) (hv2 : v < 2 ^ 31) (hsp : sp < 2 ^ 31) (hrg : rg < 2 ^ 31) (hdv : ∀ j, j < n → 0 < sp / Wd j) : Met l yX3_blamed wsX3_blamed ({ frames := 0, cells := 0, slots := 0, locals := 0 }) (va_Pc [.ref h3, .int (nI v)] (rB (dC, dI) vwCl [(h3, .inr (3, [.int (nI n), .int (nI h), .int (nI rg), .int (nI sp), .ref hk, .ref hw, .ref hs])), (hk, .inl (cI, 6, .inl kf)), (hw, .inl (cI, 6, .inl wf)), (hs, .inl (cI, 6, .inl sf))] (tyz cI cJ cS))) (QcRead (nI (if v < rg then 0 else orS (fun j => decide (v % (sp / Wd j) < rg)) n))) 0 0 (fun _ => False) := by
  refine Met.ofW (cc := cX3_blamed) (maxL := 4) (ret := (some .int)) (by decide) rfl ?_
  intro p e s m args below meth c s₁ B hml hv
  obtain ⟨rfl, hP, hKK⟩ := hv
  have hK := hKK.1
  have hx := B.exec
  have hb := B.bytes
  have hr := B.returns
  have hts := atoms_spec (ws := wsX3_blamed) B.pre
  have hown : s.vm.findClass RX3 = some m.cls := findClass_of_methodNamed B.named
  have hlocks := B.notSynchronized
  have hiX3 : ∀ w ∈ wsX30, w ∈ wsX3_blamed := by decide +kernel
  have hl := lv_entry ([.ref h3, .int (nI v)]) (n := 4) (Nat.le_of_ble_eq_true rfl)
  rw [lg_entry_eq]
  generalize (lg_sl ([.ref h3, .int (nI v)]) ++ List.replicate (4 - (lg_sl ([.ref h3, .int (nI v)])).length) Slot.unset).toArray = ls at hl ⊢
  have hl : lv_has ls 4 [(0, .ref h3), (1, .int (nI v))] := hl
  have hn6 := ok.1
  refine lv_iconst (v := (nI 0)) hx hb dX3_blamed_0 (by decide) ?_
  refine lv_istore_n (lv' := [(2, .int (nI 0)), (0, .ref h3), (1, .int (nI v))]) hx hb dX3_blamed_1 rfl hl (by decide) rfl (fun ls hl => ?_)
  refine lv_iload_n hx hb dX3_blamed_2 rfl (lv_at hl 2 rfl) ?_
  refine lv_aload_n hx hb dX3_blamed_3 rfl (lv_at hl 1 rfl) ?_
  refine va_get (D := (dC, dI)) (ci := 3) (v := .int (nI rg)) (C := RX3) (T := TX3) (N := 7) hx hb hts hiX3 hown hK hP 0 rfl rfl 2 (by decide) (hts (.fieldLink RX3 9 "RestRegisters$Wheels" "range" "I") (by decide +kernel)) (fun _ h9 => h9) rfl dX3_blamed_4 ?_
  refine rn_icmp_lt (tgt := 56) hx hb dX3_blamed_7 (by decide) (by omega) (by omega) (fun c7 => ?_) (fun c7 => ?_)
  · skip
    refine lv_iload_n hx hb dX3_blamed_56 rfl (lv_at hl 0 rfl) ?_
    exact rr_iret hx hb hr hlocks dX3_blamed_57 (by first | (rw [if_pos c7]; done) | (rw [if_neg (Nat.not_lt.mpr c7), Nat.le_antisymm hi c17]))
  refine lv_iconst (v := (nI 0)) hx hb dX3_blamed_10 (by decide) ?_
  refine lv_istore_n (lv' := [(3, .int (nI 0)), (2, .int (nI 0)), (0, .ref h3), (1, .int (nI v))]) hx hb dX3_blamed_11 rfl hl (by decide) rfl (fun ls hl => ?_)
  refine rl1 (A1 := Nat) (fun ls => W p l e _ s m _ below meth c s.heap [] 0 0 _ (F0 m 12 ls [])) (fun k ls => k ≤ n ∧ lv_has ls 4 [(3, .int (nI k)), (2, .int (nI (orS (fun j => decide (v % (sp / Wd j) < rg)) k))), (0, .ref h3), (1, .int (nI v))]) (fun k => n - k) ?_ 0 ls ⟨by omega, lv_sub hl [0, 1, 2, 3] rfl⟩
  rintro k ls ⟨hi, hl⟩ ih12
  refine lv_iload_n hx hb dX3_blamed_12 rfl (lv_at hl 0 rfl) ?_
  refine lv_aload_n hx hb dX3_blamed_13 rfl (lv_at hl 2 rfl) ?_
  refine va_get (D := (dC, dI)) (ci := 3) (v := .int (nI n)) (C := RX3) (T := TX3) (N := 7) hx hb hts hiX3 hown hK hP 0 rfl rfl 0 (by decide) (hts (.fieldLink RX3 28 "RestRegisters$Wheels" "size" "I") (by decide +kernel)) (fun _ h9 => h9) rfl dX3_blamed_14 ?_
  refine rn_icmp_ge (tgt := 56) hx hb dX3_blamed_17 (by decide) (by omega) (by omega) (fun c17 => ?_) (fun c17 => ?_)
  · skip
    refine lv_iload_n hx hb dX3_blamed_56 rfl (lv_at hl 1 rfl) ?_
    exact rr_iret hx hb hr hlocks dX3_blamed_57 (by first | (rw [if_pos c7]; done) | (rw [if_neg (Nat.not_lt.mpr c7), Nat.le_antisymm hi c17]))
  refine lv_iload_n hx hb dX3_blamed_20 rfl (lv_at hl 1 rfl) ?_
  refine lv_iload_n hx hb dX3_blamed_21 rfl (lv_at hl 3 rfl) ?_
  refine lv_aload_n hx hb dX3_blamed_22 rfl (lv_at hl 2 rfl) ?_
  refine va_get (D := (dC, dI)) (ci := 3) (v := .int (nI sp)) (C := RX3) (T := TX3) (N := 7) hx hb hts hiX3 hown hK hP 0 rfl rfl 3 (by decide) (hts (.fieldLink RX3 15 "RestRegisters$Wheels" "span" "I") (by decide +kernel)) (fun _ h9 => h9) rfl dX3_blamed_23 ?_
  refine lv_aload_n hx hb dX3_blamed_26 rfl (lv_at hl 2 rfl) ?_
  refine va_get (D := (dC, dI)) (ci := 3) (v := .ref hw) (C := RX3) (T := TX3) (N := 7) hx hb hts hiX3 hown hK hP 0 rfl rfl 5 (by decide) (hts (.fieldLink RX3 22 "RestRegisters$Wheels" "widths" "[I") (by decide +kernel)) (fun _ h9 => h9) rfl dX3_blamed_27 ?_
  refine lv_iload_n hx hb dX3_blamed_30 rfl (lv_at hl 0 rfl) ?_
  refine rn_iald hx hb hK hP 2 0 rfl rfl (i := k) (by omega) (by decide) (v := (nI (Wd k))) (fw k (by omega)) dX3_blamed_31 ?_
  have hv31 := ok.2.2.1 k (by omega)
  refine rn_idiv hx hb dX3_blamed_32 (by omega) (by omega) (by omega) ?_
  refine rn_irem hx hb dX3_blamed_33 (by omega) (hdv k c17) (Nat.lt_of_le_of_lt (Nat.div_le_self _ _) hsp) ?_
  refine lv_aload_n hx hb dX3_blamed_34 rfl (lv_at hl 2 rfl) ?_
  refine va_get (D := (dC, dI)) (ci := 3) (v := .int (nI rg)) (C := RX3) (T := TX3) (N := 7) hx hb hts hiX3 hown hK hP 0 rfl rfl 2 (by decide) (hts (.fieldLink RX3 9 "RestRegisters$Wheels" "range" "I") (by decide +kernel)) (fun _ h9 => h9) rfl dX3_blamed_35 ?_
  refine rn_icmp_ge (tgt := 47) hx hb dX3_blamed_38 (by decide) (Nat.lt_of_le_of_lt (Nat.mod_le _ _) hv2) hrg (fun c38 => ?_) (fun c38 => ?_)
  · skip
    refine lv_iconst (v := (nI 0)) hx hb dX3_blamed_47 (by decide) ?_
    refine lv_ior hx hb dX3_blamed_48 ?_
    refine rr_top (y := (nI (orS (fun j => decide (v % (sp / Wd j) < rg)) (k + 1)))) (by rw [or_eq, orS]; first | (rw [if_pos (decide_eq_true c38)]; done) | rw [if_neg (fun q => absurd (of_decide_eq_true q) (Nat.not_lt.mpr c38))]) ?_
    refine lv_istore_n (lv' := [(2, .int (nI (orS (fun j => decide (v % (sp / Wd j) < rg)) (k + 1)))), (3, .int (nI k)), (0, .ref h3), (1, .int (nI v))]) hx hb dX3_blamed_49 rfl hl (by decide) rfl (fun ls hl => ?_)
    refine lv_iinc (v := (nI (k + 1))) (lv' := [(3, .int (nI (k + 1))), (2, .int (nI (orS (fun j => decide (v % (sp / Wd j) < rg)) (k + 1)))), (0, .ref h3), (1, .int (nI v))]) hx hb dX3_blamed_50 hl (k := 1) rfl (rn_inc k 1) (by decide) rfl (fun ls hl => ?_)
    refine lv_goto (tgt := 12) hx hb dX3_blamed_53 (by decide) ?_
    exact ih12 (k + 1) ls ⟨by omega, lv_sub hl [0, 1, 2, 3] rfl⟩ (by omega)
  refine lv_iconst (v := (nI 1)) hx hb dX3_blamed_41 (by decide) ?_
  refine lv_iload_n hx hb dX3_blamed_42 rfl (lv_at hl 0 rfl) ?_
  refine lv_ishl hx hb dX3_blamed_43 ?_
  refine rr_top (y := (nI (2 ^ k))) (shl_eq (by omega)) ?_
  refine lv_goto (tgt := 48) hx hb dX3_blamed_44 (by decide) ?_
  refine lv_ior hx hb dX3_blamed_48 ?_
  refine rr_top (y := (nI (orS (fun j => decide (v % (sp / Wd j) < rg)) (k + 1)))) (by rw [or_eq, orS]; first | (rw [if_pos (decide_eq_true c38)]; done) | rw [if_neg (fun q => absurd (of_decide_eq_true q) (Nat.not_lt.mpr c38))]) ?_
  refine lv_istore_n (lv' := [(2, .int (nI (orS (fun j => decide (v % (sp / Wd j) < rg)) (k + 1)))), (3, .int (nI k)), (0, .ref h3), (1, .int (nI v))]) hx hb dX3_blamed_49 rfl hl (by decide) rfl (fun ls hl => ?_)
  refine lv_iinc (v := (nI (k + 1))) (lv' := [(3, .int (nI (k + 1))), (2, .int (nI (orS (fun j => decide (v % (sp / Wd j) < rg)) (k + 1)))), (0, .ref h3), (1, .int (nI v))]) hx hb dX3_blamed_50 hl (k := 1) rfl (rn_inc k 1) (by decide) rfl (fun ls hl => ?_)
  refine lv_goto (tgt := 12) hx hb dX3_blamed_53 (by decide) ?_
  exact ih12 (k + 1) ls ⟨by omega, lv_sub hl [0, 1, 2, 3] rfl⟩ (by omega)
set_option maxHeartbeats 4000000 in
set_option maxRecDepth 100000 in
theorem c_X3_mostAlike (l : Launch) (dC : Nat → ClassId) (dI : Nat → Nat → Nat) (cI cJ cS : ClassId) (h3 hk hw hs : Nat) (n h rg sp : Nat) (kf wf sf : Nat → Int32) (Kd Wd Sh : Nat → Nat) (v : Nat) (ok : wOk n Kd Wd) (fw : isA n wf Wd) (hv2 : v < 2 ^ 31) (hrg : rg < 2 ^ 31) : Met l yX3_mostAlike wsX3_mostAlike ({ frames := 2, cells := 0, slots := 0, locals := 44 }) (va_Pc [.ref h3, .int (nI v)] (rB (dC, dI) vwCl [(h3, .inr (3, [.int (nI n), .int (nI h), .int (nI rg), .int (nI sp), .ref hk, .ref hw, .ref hs])), (hk, .inl (cI, 6, .inl kf)), (hw, .inl (cI, 6, .inl wf)), (hs, .inl (cI, 6, .inl sf))] (tyz cI cJ cS))) (QcRead (nI (mA n Wd rg v (2 ^ n)))) 0 0 (fun _ => False) := by
  refine Met.ofW (cc := cX3_mostAlike) (maxL := 4) (ret := (some .int)) (by decide) rfl ?_
  intro p e s m args below meth c s₁ B hml hv
  obtain ⟨rfl, hP, hKK⟩ := hv
  have hK := hKK.1
  have hx := B.exec
  have hb := B.bytes
  have hr := B.returns
  have hts := atoms_spec (ws := wsX3_mostAlike) B.pre
  have hown : s.vm.findClass RX3 = some m.cls := findClass_of_methodNamed B.named
  have hlocks := B.notSynchronized
  have hiX3 : ∀ w ∈ wsX30, w ∈ wsX3_mostAlike := by decide +kernel
  have hl := lv_entry ([.ref h3, .int (nI v)]) (n := 4) (Nat.le_of_ble_eq_true rfl)
  rw [lg_entry_eq]
  generalize (lg_sl ([.ref h3, .int (nI v)]) ++ List.replicate (4 - (lg_sl ([.ref h3, .int (nI v)])).length) Slot.unset).toArray = ls at hl ⊢
  have hl : lv_has ls 4 [(0, .ref h3), (1, .int (nI v))] := hl
  have hn6 := ok.1
  have h2n := two_b hn6
  refine lv_iconst (v := (nI 0)) hx hb dX3_mostAlike_0 (by decide) ?_
  refine lv_istore_n (lv' := [(2, .int (nI 0)), (0, .ref h3), (1, .int (nI v))]) hx hb dX3_mostAlike_1 rfl hl (by decide) rfl (fun ls hl => ?_)
  refine lv_iconst (v := (nI 0)) hx hb dX3_mostAlike_2 (by decide) ?_
  refine lv_istore_n (lv' := [(3, .int (nI 0)), (2, .int (nI 0)), (0, .ref h3), (1, .int (nI v))]) hx hb dX3_mostAlike_3 rfl hl (by decide) rfl (fun ls hl => ?_)
  refine rl1 (A1 := Nat) (fun ls => W p l e _ s m _ below meth c s.heap [] 0 0 _ (F0 m 4 ls [])) (fun o ls => o ≤ 2 ^ n ∧ lv_has ls 4 [(3, .int (nI o)), (2, .int (nI (mA n Wd rg v o))), (0, .ref h3), (1, .int (nI v))]) (fun o => 2 ^ n - o) ?_ 0 ls ⟨by omega, lv_sub hl [0, 1, 2, 3] rfl⟩
  rintro o ls ⟨hi, hl⟩ ih4
  refine lv_iload_n hx hb dX3_mostAlike_4 rfl (lv_at hl 0 rfl) ?_
  refine lv_iconst (v := (nI 1)) hx hb dX3_mostAlike_5 (by decide) ?_
  refine lv_aload_n hx hb dX3_mostAlike_6 rfl (lv_at hl 2 rfl) ?_
  refine va_get (D := (dC, dI)) (ci := 3) (v := .int (nI n)) (C := RX3) (T := TX3) (N := 7) hx hb hts hiX3 hown hK hP 0 rfl rfl 0 (by decide) (hts (.fieldLink RX3 28 "RestRegisters$Wheels" "size" "I") (by decide +kernel)) (fun _ h9 => h9) rfl dX3_mostAlike_7 ?_
  refine lv_ishl hx hb dX3_mostAlike_10 ?_
  refine rr_top (y := (nI (2 ^ n))) (shl_eq (by omega)) ?_
  refine rn_icmp_ge (tgt := 43) hx hb dX3_mostAlike_11 (by decide) (by omega) (by omega) (fun c11 => ?_) (fun c11 => ?_)
  · skip
    refine lv_iload_n hx hb dX3_mostAlike_43 rfl (lv_at hl 1 rfl) ?_
    exact rr_iret hx hb hr hlocks dX3_mostAlike_44 (by rw [Nat.le_antisymm hi c11])
  refine lv_iload_n hx hb dX3_mostAlike_14 rfl (lv_at hl 3 rfl) ?_
  refine lv_aload_n hx hb dX3_mostAlike_15 rfl (lv_at hl 2 rfl) ?_
  refine lv_iload_n hx hb dX3_mostAlike_16 rfl (lv_at hl 0 rfl) ?_
  refine rr_callR (va_runV (As := [.int (nI o)]) (rest := [.int (nI v)]) ⟨hx, hb, hml, hown, hts⟩ (c_X3_product l dC dI cI cJ cS h3 hk hw hs n h rg sp kf wf sf Kd Wd Sh o (by first | assumption | omega) (by first | assumption | omega) (by first | assumption | omega)) (cwV 1 hts gX3_mostAlike_X3_product rfl rfl rfl (by decide +kernel) ⟨Nat.le_of_ble_eq_true rfl, Nat.le_of_ble_eq_true rfl⟩) (rr_preV hKK hP rfl rfl) rfl rfl hl.1 rfl (lv_room (Nat.le_of_ble_eq_true rfl)) dX3_mostAlike_17 ⟨Nat.zero_le _, Nat.zero_le _⟩) ?_
  have hpb := prO_b ok o (Nat.le_refl n)
  refine rn_irem hx hb dX3_mostAlike_20 (by omega) (by omega) (by omega) ?_
  refine lv_aload_n hx hb dX3_mostAlike_21 rfl (lv_at hl 2 rfl) ?_
  refine va_get (D := (dC, dI)) (ci := 3) (v := .int (nI rg)) (C := RX3) (T := TX3) (N := 7) hx hb hts hiX3 hown hK hP 0 rfl rfl 2 (by decide) (hts (.fieldLink RX3 9 "RestRegisters$Wheels" "range" "I") (by decide +kernel)) (fun _ h9 => h9) rfl dX3_mostAlike_22 ?_
  refine rn_icmp_ge (tgt := 37) hx hb dX3_mostAlike_25 (by decide) (Nat.lt_of_le_of_lt (Nat.mod_le _ _) hv2) hrg (fun c25 => ?_) (fun c25 => ?_)
  · skip
    have hl : lv_has ls 4 [(3, .int (nI o)), (2, .int (nI (mA n Wd rg v (o + 1)))), (0, .ref h3), (1, .int (nI v))] := by rw [mA, if_neg (Nat.not_lt.mpr c25)]; exact hl
    refine lv_iinc (v := (nI (o + 1))) (lv' := [(3, .int (nI (o + 1))), (2, .int (nI (mA n Wd rg v (o + 1)))), (0, .ref h3), (1, .int (nI v))]) hx hb dX3_mostAlike_37 hl (k := 0) rfl (rn_inc o 1) (by decide) rfl (fun ls hl => ?_)
    refine lv_goto (tgt := 4) hx hb dX3_mostAlike_40 (by decide) ?_
    exact ih4 (o + 1) ls ⟨by omega, lv_sub hl [0, 1, 2, 3] rfl⟩ (by omega)
  refine lv_iload_n hx hb dX3_mostAlike_28 rfl (lv_at hl 1 rfl) ?_
  refine lv_iload_n hx hb dX3_mostAlike_29 rfl (lv_at hl 0 rfl) ?_
  refine rr_callR (va_runS (As := [.int (nI o)]) (rest := [.int (nI (mA n Wd rg v o))]) ⟨hx, hb, hml, hown, hts⟩ (c_J6_bitCount_0f7a4 l o (by first | assumption | omega)) (va_cwS 1 hts gX3_mostAlike_J6_bitCount_0f7a4 rfl rfl rfl (by decide +kernel) ⟨Nat.le_of_ble_eq_true rfl, Nat.le_of_ble_eq_true rfl⟩) rr_preT rfl rfl hl.1 rfl (lv_room (Nat.le_of_ble_eq_true rfl)) dX3_mostAlike_30 ⟨Nat.zero_le _, Nat.zero_le _⟩) ?_
  have hpc := popc_b (x := o) hn6 (by omega)
  have hma := mA_le hn6 Wd rg v o (by omega)
  refine va_mmax hx hb (hml.trans hl.1.symm) hown (hts (.methodLink RX3 44 Lib.Math.max.name) (by decide +kernel)) (hts (.static Lib.Math.max.name) (by decide +kernel)) (hts (.initialized "java/lang/Math") (by decide +kernel)) (hts (.code Lib.Math.max.name Lib.Math.max.code 2 (some .int)) (by decide +kernel)) (Nat.le_of_ble_eq_true rfl) (Nat.le_of_ble_eq_true rfl) (Nat.zero_le _) (Nat.zero_le _) dX3_mostAlike_33 ?_
  refine rr_top (y := (nI (max (mA n Wd rg v o) (popc o)))) (rn_max (by omega) (by omega)) ?_
  refine rn_top (y := mA n Wd rg v (o + 1)) (by rw [mA, if_pos c25]) ?_
  refine lv_istore_n (lv' := [(2, .int (nI (mA n Wd rg v (o + 1)))), (3, .int (nI o)), (0, .ref h3), (1, .int (nI v))]) hx hb dX3_mostAlike_36 rfl hl (by decide) rfl (fun ls hl => ?_)
  refine lv_iinc (v := (nI (o + 1))) (lv' := [(3, .int (nI (o + 1))), (2, .int (nI (mA n Wd rg v (o + 1)))), (0, .ref h3), (1, .int (nI v))]) hx hb dX3_mostAlike_37 hl (k := 1) rfl (rn_inc o 1) (by decide) rfl (fun ls hl => ?_)
  refine lv_goto (tgt := 4) hx hb dX3_mostAlike_40 (by decide) ?_
  exact ih4 (o + 1) ls ⟨by omega, lv_sub hl [0, 1, 2, 3] rfl⟩ (by omega)
set_option maxHeartbeats 4000000 in
set_option maxRecDepth 100000 in
theorem c_X3_leastAlike (l : Launch) (dC : Nat → ClassId) (dI : Nat → Nat → Nat) (cI cJ cS : ClassId) (h3 hk hw hs : Nat) (n h rg sp : Nat) (kf wf sf : Nat → Int32) (Kd Wd Sh : Nat → Nat) (v al : Nat) (ok : wOk n Kd Wd) (fw : isA n wf Wd) (hv2 : v < 2 ^ 31) (hal : al < 2 ^ 31) (hrg : rg < 2 ^ 31) : Met l yX3_leastAlike wsX3_leastAlike ({ frames := 2, cells := 0, slots := 0, locals := 44 }) (va_Pc [.ref h3, .int (nI v), .int (nI al)] (rB (dC, dI) vwCl [(h3, .inr (3, [.int (nI n), .int (nI h), .int (nI rg), .int (nI sp), .ref hk, .ref hw, .ref hs])), (hk, .inl (cI, 6, .inl kf)), (hw, .inl (cI, 6, .inl wf)), (hs, .inl (cI, 6, .inl sf))] (tyz cI cJ cS))) (QcRead (nI (lA n Wd rg v al (2 ^ n)))) 0 0 (fun _ => False) := by
  refine Met.ofW (cc := cX3_leastAlike) (maxL := 5) (ret := (some .int)) (by decide) rfl ?_
  intro p e s m args below meth c s₁ B hml hv
  obtain ⟨rfl, hP, hKK⟩ := hv
  have hK := hKK.1
  have hx := B.exec
  have hb := B.bytes
  have hr := B.returns
  have hts := atoms_spec (ws := wsX3_leastAlike) B.pre
  have hown : s.vm.findClass RX3 = some m.cls := findClass_of_methodNamed B.named
  have hlocks := B.notSynchronized
  have hiX3 : ∀ w ∈ wsX30, w ∈ wsX3_leastAlike := by decide +kernel
  have hl := lv_entry ([.ref h3, .int (nI v), .int (nI al)]) (n := 5) (Nat.le_of_ble_eq_true rfl)
  rw [lg_entry_eq]
  generalize (lg_sl ([.ref h3, .int (nI v), .int (nI al)]) ++ List.replicate (5 - (lg_sl ([.ref h3, .int (nI v), .int (nI al)])).length) Slot.unset).toArray = ls at hl ⊢
  have hl : lv_has ls 5 [(0, .ref h3), (1, .int (nI v)), (2, .int (nI al))] := hl
  have hn6 := ok.1
  have h2n := two_b hn6
  refine lv_aload_n hx hb dX3_leastAlike_0 rfl (lv_at hl 0 rfl) ?_
  refine va_get (D := (dC, dI)) (ci := 3) (v := .int (nI rg)) (C := RX3) (T := TX3) (N := 7) hx hb hts hiX3 hown hK hP 0 rfl rfl 2 (by decide) (hts (.fieldLink RX3 9 "RestRegisters$Wheels" "range" "I") (by decide +kernel)) (fun _ h9 => h9) rfl dX3_leastAlike_1 ?_
  refine lv_istore_n (lv' := [(3, .int (nI rg)), (0, .ref h3), (1, .int (nI v)), (2, .int (nI al))]) hx hb dX3_leastAlike_4 rfl hl (by decide) rfl (fun ls hl => ?_)
  refine lv_iconst (v := (nI 0)) hx hb dX3_leastAlike_5 (by decide) ?_
  refine lv_istore (lv' := [(4, .int (nI 0)), (3, .int (nI rg)), (0, .ref h3), (1, .int (nI v)), (2, .int (nI al))]) hx hb dX3_leastAlike_6 hl (by decide) rfl (fun ls hl => ?_)
  refine rl1 (A1 := Nat) (fun ls => W p l e _ s m _ below meth c s.heap [] 0 0 _ (F0 m 8 ls [])) (fun o ls => o ≤ 2 ^ n ∧ lv_has ls 5 [(4, .int (nI o)), (3, .int (nI (lA n Wd rg v al o))), (0, .ref h3), (1, .int (nI v)), (2, .int (nI al))]) (fun o => 2 ^ n - o) ?_ 0 ls ⟨by omega, lv_sub hl [0, 1, 2, 3, 4] rfl⟩
  rintro o ls ⟨hi, hl⟩ ih8
  refine lv_iload hx hb dX3_leastAlike_8 (lv_at hl 0 rfl) ?_
  refine lv_iconst (v := (nI 1)) hx hb dX3_leastAlike_10 (by decide) ?_
  refine lv_aload_n hx hb dX3_leastAlike_11 rfl (lv_at hl 2 rfl) ?_
  refine va_get (D := (dC, dI)) (ci := 3) (v := .int (nI n)) (C := RX3) (T := TX3) (N := 7) hx hb hts hiX3 hown hK hP 0 rfl rfl 0 (by decide) (hts (.fieldLink RX3 28 "RestRegisters$Wheels" "size" "I") (by decide +kernel)) (fun _ h9 => h9) rfl dX3_leastAlike_12 ?_
  refine lv_ishl hx hb dX3_leastAlike_15 ?_
  refine rr_top (y := (nI (2 ^ n))) (shl_eq (by omega)) ?_
  refine rn_icmp_ge (tgt := 47) hx hb dX3_leastAlike_16 (by decide) (by omega) (by omega) (fun c16 => ?_) (fun c16 => ?_)
  · skip
    refine lv_iload_n hx hb dX3_leastAlike_47 rfl (lv_at hl 1 rfl) ?_
    exact rr_iret hx hb hr hlocks dX3_leastAlike_48 (by rw [Nat.le_antisymm hi c16])
  refine lv_iload hx hb dX3_leastAlike_19 (lv_at hl 0 rfl) ?_
  refine rr_callR (va_runS (As := [.int (nI o)]) (rest := []) ⟨hx, hb, hml, hown, hts⟩ (c_J6_bitCount_0f7a4 l o (by first | assumption | omega)) (va_cwS 1 hts gX3_leastAlike_J6_bitCount_0f7a4 rfl rfl rfl (by decide +kernel) ⟨Nat.le_of_ble_eq_true rfl, Nat.le_of_ble_eq_true rfl⟩) rr_preT rfl rfl hl.1 rfl (lv_room (Nat.le_of_ble_eq_true rfl)) dX3_leastAlike_21 ⟨Nat.zero_le _, Nat.zero_le _⟩) ?_
  have hpc := popc_b (x := o) hn6 (by omega)
  refine lv_iload_n hx hb dX3_leastAlike_24 rfl (lv_at hl 4 rfl) ?_
  refine rn_icmp_ne (tgt := 41) hx hb dX3_leastAlike_25 (by decide) (by omega) (by omega) (fun c25 => ?_) (fun c25 => ?_)
  · skip
    have hl : lv_has ls 5 [(4, .int (nI o)), (3, .int (nI (lA n Wd rg v al (o + 1)))), (0, .ref h3), (1, .int (nI v)), (2, .int (nI al))] := by rw [lA, if_neg c25]; exact hl
    refine lv_iinc (v := (nI (o + 1))) (lv' := [(4, .int (nI (o + 1))), (3, .int (nI (lA n Wd rg v al (o + 1)))), (0, .ref h3), (1, .int (nI v)), (2, .int (nI al))]) hx hb dX3_leastAlike_41 hl (k := 0) rfl (rn_inc o 1) (by decide) rfl (fun ls hl => ?_)
    refine lv_goto (tgt := 8) hx hb dX3_leastAlike_44 (by decide) ?_
    exact ih8 (o + 1) ls ⟨by omega, lv_sub hl [0, 1, 2, 3, 4] rfl⟩ (by omega)
  refine lv_iload_n hx hb dX3_leastAlike_28 rfl (lv_at hl 1 rfl) ?_
  refine lv_iload_n hx hb dX3_leastAlike_29 rfl (lv_at hl 3 rfl) ?_
  refine lv_aload_n hx hb dX3_leastAlike_30 rfl (lv_at hl 2 rfl) ?_
  refine lv_iload hx hb dX3_leastAlike_31 (lv_at hl 0 rfl) ?_
  refine rr_callR (va_runV (As := [.int (nI o)]) (rest := [.int (nI v), .int (nI (lA n Wd rg v al o))]) ⟨hx, hb, hml, hown, hts⟩ (c_X3_product l dC dI cI cJ cS h3 hk hw hs n h rg sp kf wf sf Kd Wd Sh o (by first | assumption | omega) (by first | assumption | omega) (by first | assumption | omega)) (cwV 1 hts gX3_leastAlike_X3_product rfl rfl rfl (by decide +kernel) ⟨Nat.le_of_ble_eq_true rfl, Nat.le_of_ble_eq_true rfl⟩) (rr_preV hKK hP rfl rfl) rfl rfl hl.1 rfl (lv_room (Nat.le_of_ble_eq_true rfl)) dX3_leastAlike_33 ⟨Nat.zero_le _, Nat.zero_le _⟩) ?_
  have hpb := prO_b ok o (Nat.le_refl n)
  refine rn_irem hx hb dX3_leastAlike_36 (by omega) (by omega) (by omega) ?_
  refine va_mmin hx hb (hml.trans hl.1.symm) hown (hts (.methodLink RX3 83 Lib.Math.min.name) (by decide +kernel)) (hts (.static Lib.Math.min.name) (by decide +kernel)) (hts (.initialized "java/lang/Math") (by decide +kernel)) (hts (.code Lib.Math.min.name Lib.Math.min.code 2 (some .int)) (by decide +kernel)) (Nat.le_of_ble_eq_true rfl) (Nat.le_of_ble_eq_true rfl) (Nat.zero_le _) (Nat.zero_le _) dX3_leastAlike_37 ?_
  refine rr_top (y := (nI (min (lA n Wd rg v al o) (v % (prO Wd o n))))) (rn_min (Nat.lt_of_le_of_lt (lA_le n Wd rg v al o) hrg) (Nat.lt_of_le_of_lt (Nat.mod_le _ _) hv2)) ?_
  refine rn_top (y := lA n Wd rg v al (o + 1)) (by rw [lA, if_pos c25]) ?_
  refine lv_istore_n (lv' := [(3, .int (nI (lA n Wd rg v al (o + 1)))), (4, .int (nI o)), (0, .ref h3), (1, .int (nI v)), (2, .int (nI al))]) hx hb dX3_leastAlike_40 rfl hl (by decide) rfl (fun ls hl => ?_)
  refine lv_iinc (v := (nI (o + 1))) (lv' := [(4, .int (nI (o + 1))), (3, .int (nI (lA n Wd rg v al (o + 1)))), (0, .ref h3), (1, .int (nI v)), (2, .int (nI al))]) hx hb dX3_leastAlike_41 hl (k := 1) rfl (rn_inc o 1) (by decide) rfl (fun ls hl => ?_)
  refine lv_goto (tgt := 8) hx hb dX3_leastAlike_44 (by decide) ?_
  exact ih8 (o + 1) ls ⟨by omega, lv_sub hl [0, 1, 2, 3, 4] rfl⟩ (by omega)
set_option maxHeartbeats 4000000 in
set_option maxRecDepth 100000 in
theorem c_X3_fewestUnlike (l : Launch) (dC : Nat → ClassId) (dI : Nat → Nat → Nat) (cI cJ cS : ClassId) (h3 hk hw hs : Nat) (n h rg sp : Nat) (kf wf sf : Nat → Int32) (Kd Wd Sh : Nat → Nat) (ok : wOk n Kd Wd) (fw : isA n wf Wd) (hrg : rg < 2 ^ 31) : Met l yX3_fewestUnlike wsX3_fewestUnlike ({ frames := 2, cells := 0, slots := 0, locals := 44 }) (va_Pc [.ref h3] (rB (dC, dI) vwCl [(h3, .inr (3, [.int (nI n), .int (nI h), .int (nI rg), .int (nI sp), .ref hk, .ref hw, .ref hs])), (hk, .inl (cI, 6, .inl kf)), (hw, .inl (cI, 6, .inl wf)), (hs, .inl (cI, 6, .inl sf))] (tyz cI cJ cS))) (QcRead (nI (n - fU n Wd rg (2 ^ n)))) 0 0 (fun _ => False) := by
  refine Met.ofW (cc := cX3_fewestUnlike) (maxL := 3) (ret := (some .int)) (by decide) rfl ?_
  intro p e s m args below meth c s₁ B hml hv
  obtain ⟨rfl, hP, hKK⟩ := hv
  have hK := hKK.1
  have hx := B.exec
  have hb := B.bytes
  have hr := B.returns
  have hts := atoms_spec (ws := wsX3_fewestUnlike) B.pre
  have hown : s.vm.findClass RX3 = some m.cls := findClass_of_methodNamed B.named
  have hlocks := B.notSynchronized
  have hiX3 : ∀ w ∈ wsX30, w ∈ wsX3_fewestUnlike := by decide +kernel
  have hl := lv_entry ([.ref h3]) (n := 3) (Nat.le_of_ble_eq_true rfl)
  rw [lg_entry_eq]
  generalize (lg_sl ([.ref h3]) ++ List.replicate (3 - (lg_sl ([.ref h3])).length) Slot.unset).toArray = ls at hl ⊢
  have hl : lv_has ls 3 [(0, .ref h3)] := hl
  have hn6 := ok.1
  have h2n := two_b hn6
  refine lv_iconst (v := (nI 0)) hx hb dX3_fewestUnlike_0 (by decide) ?_
  refine lv_istore_n (lv' := [(1, .int (nI 0)), (0, .ref h3)]) hx hb dX3_fewestUnlike_1 rfl hl (by decide) rfl (fun ls hl => ?_)
  refine lv_iconst (v := (nI 0)) hx hb dX3_fewestUnlike_2 (by decide) ?_
  refine lv_istore_n (lv' := [(2, .int (nI 0)), (1, .int (nI 0)), (0, .ref h3)]) hx hb dX3_fewestUnlike_3 rfl hl (by decide) rfl (fun ls hl => ?_)
  refine rl1 (A1 := Nat) (fun ls => W p l e _ s m _ below meth c s.heap [] 0 0 _ (F0 m 4 ls [])) (fun o ls => o ≤ 2 ^ n ∧ lv_has ls 3 [(2, .int (nI o)), (1, .int (nI (fU n Wd rg o))), (0, .ref h3)]) (fun o => 2 ^ n - o) ?_ 0 ls ⟨by omega, lv_sub hl [0, 1, 2] rfl⟩
  rintro o ls ⟨hi, hl⟩ ih4
  refine lv_iload_n hx hb dX3_fewestUnlike_4 rfl (lv_at hl 0 rfl) ?_
  refine lv_iconst (v := (nI 1)) hx hb dX3_fewestUnlike_5 (by decide) ?_
  refine lv_aload_n hx hb dX3_fewestUnlike_6 rfl (lv_at hl 2 rfl) ?_
  refine va_get (D := (dC, dI)) (ci := 3) (v := .int (nI n)) (C := RX3) (T := TX3) (N := 7) hx hb hts hiX3 hown hK hP 0 rfl rfl 0 (by decide) (hts (.fieldLink RX3 28 "RestRegisters$Wheels" "size" "I") (by decide +kernel)) (fun _ h9 => h9) rfl dX3_fewestUnlike_7 ?_
  refine lv_ishl hx hb dX3_fewestUnlike_10 ?_
  refine rr_top (y := (nI (2 ^ n))) (shl_eq (by omega)) ?_
  refine rn_icmp_ge (tgt := 41) hx hb dX3_fewestUnlike_11 (by decide) (by omega) (by omega) (fun c11 => ?_) (fun c11 => ?_)
  · skip
    have hma := fU_le hn6 Wd rg o hi
    refine lv_aload_n hx hb dX3_fewestUnlike_41 rfl (lv_at hl 2 rfl) ?_
    refine va_get (D := (dC, dI)) (ci := 3) (v := .int (nI n)) (C := RX3) (T := TX3) (N := 7) hx hb hts hiX3 hown hK hP 0 rfl rfl 0 (by decide) (hts (.fieldLink RX3 28 "RestRegisters$Wheels" "size" "I") (by decide +kernel)) (fun _ h9 => h9) rfl dX3_fewestUnlike_42 ?_
    refine lv_iload_n hx hb dX3_fewestUnlike_45 rfl (lv_at hl 1 rfl) ?_
    refine rn_isub hx hb dX3_fewestUnlike_46 (by omega) ?_
    exact rr_iret hx hb hr hlocks dX3_fewestUnlike_47 (by rw [Nat.le_antisymm hi c11])
  refine lv_aload_n hx hb dX3_fewestUnlike_14 rfl (lv_at hl 2 rfl) ?_
  refine lv_iload_n hx hb dX3_fewestUnlike_15 rfl (lv_at hl 0 rfl) ?_
  refine rr_callR (va_runV (As := [.int (nI o)]) (rest := []) ⟨hx, hb, hml, hown, hts⟩ (c_X3_product l dC dI cI cJ cS h3 hk hw hs n h rg sp kf wf sf Kd Wd Sh o (by first | assumption | omega) (by first | assumption | omega) (by first | assumption | omega)) (cwV 1 hts gX3_fewestUnlike_X3_product rfl rfl rfl (by decide +kernel) ⟨Nat.le_of_ble_eq_true rfl, Nat.le_of_ble_eq_true rfl⟩) (rr_preV hKK hP rfl rfl) rfl rfl hl.1 rfl (lv_room (Nat.le_of_ble_eq_true rfl)) dX3_fewestUnlike_16 ⟨Nat.zero_le _, Nat.zero_le _⟩) ?_
  have hpb := prO_b ok o (Nat.le_refl n)
  refine lv_aload_n hx hb dX3_fewestUnlike_19 rfl (lv_at hl 2 rfl) ?_
  refine va_get (D := (dC, dI)) (ci := 3) (v := .int (nI rg)) (C := RX3) (T := TX3) (N := 7) hx hb hts hiX3 hown hK hP 0 rfl rfl 2 (by decide) (hts (.fieldLink RX3 9 "RestRegisters$Wheels" "range" "I") (by decide +kernel)) (fun _ h9 => h9) rfl dX3_fewestUnlike_20 ?_
  refine rn_icmp_ge (tgt := 35) hx hb dX3_fewestUnlike_23 (by decide) (by omega) (by omega) (fun c23 => ?_) (fun c23 => ?_)
  · skip
    have hl : lv_has ls 3 [(2, .int (nI o)), (1, .int (nI (fU n Wd rg (o + 1)))), (0, .ref h3)] := by rw [fU, if_neg (Nat.not_lt.mpr c23)]; exact hl
    refine lv_iinc (v := (nI (o + 1))) (lv' := [(2, .int (nI (o + 1))), (1, .int (nI (fU n Wd rg (o + 1)))), (0, .ref h3)]) hx hb dX3_fewestUnlike_35 hl (k := 0) rfl (rn_inc o 1) (by decide) rfl (fun ls hl => ?_)
    refine lv_goto (tgt := 4) hx hb dX3_fewestUnlike_38 (by decide) ?_
    exact ih4 (o + 1) ls ⟨by omega, lv_sub hl [0, 1, 2] rfl⟩ (by omega)
  refine lv_iload_n hx hb dX3_fewestUnlike_26 rfl (lv_at hl 1 rfl) ?_
  refine lv_iload_n hx hb dX3_fewestUnlike_27 rfl (lv_at hl 0 rfl) ?_
  refine rr_callR (va_runS (As := [.int (nI o)]) (rest := [.int (nI (fU n Wd rg o))]) ⟨hx, hb, hml, hown, hts⟩ (c_J6_bitCount_0f7a4 l o (by first | assumption | omega)) (va_cwS 1 hts gX3_fewestUnlike_J6_bitCount_0f7a4 rfl rfl rfl (by decide +kernel) ⟨Nat.le_of_ble_eq_true rfl, Nat.le_of_ble_eq_true rfl⟩) rr_preT rfl rfl hl.1 rfl (lv_room (Nat.le_of_ble_eq_true rfl)) dX3_fewestUnlike_28 ⟨Nat.zero_le _, Nat.zero_le _⟩) ?_
  have hpc := popc_b (x := o) hn6 (by omega)
  have hma := fU_le hn6 Wd rg o (by omega)
  refine va_mmax hx hb (hml.trans hl.1.symm) hown (hts (.methodLink RX3 44 Lib.Math.max.name) (by decide +kernel)) (hts (.static Lib.Math.max.name) (by decide +kernel)) (hts (.initialized "java/lang/Math") (by decide +kernel)) (hts (.code Lib.Math.max.name Lib.Math.max.code 2 (some .int)) (by decide +kernel)) (Nat.le_of_ble_eq_true rfl) (Nat.le_of_ble_eq_true rfl) (Nat.zero_le _) (Nat.zero_le _) dX3_fewestUnlike_31 ?_
  refine rr_top (y := (nI (max (fU n Wd rg o) (popc o)))) (rn_max (by omega) (by omega)) ?_
  refine rn_top (y := fU n Wd rg (o + 1)) (by rw [fU, if_pos c23]) ?_
  refine lv_istore_n (lv' := [(1, .int (nI (fU n Wd rg (o + 1)))), (2, .int (nI o)), (0, .ref h3)]) hx hb dX3_fewestUnlike_34 rfl hl (by decide) rfl (fun ls hl => ?_)
  refine lv_iinc (v := (nI (o + 1))) (lv' := [(2, .int (nI (o + 1))), (1, .int (nI (fU n Wd rg (o + 1)))), (0, .ref h3)]) hx hb dX3_fewestUnlike_35 hl (k := 1) rfl (rn_inc o 1) (by decide) rfl (fun ls hl => ?_)
  refine lv_goto (tgt := 4) hx hb dX3_fewestUnlike_38 (by decide) ?_
  exact ih4 (o + 1) ls ⟨by omega, lv_sub hl [0, 1, 2] rfl⟩ (by omega)
set_option maxHeartbeats 4000000 in
set_option maxRecDepth 100000 in
theorem c_X3_turnedOn (l : Launch) (dC : Nat → ClassId) (dI : Nat → Nat → Nat) (cI cJ cS : ClassId) (h3 hk hw hs : Nat) (n h rg sp : Nat) (kf wf sf : Nat → Int32) (Kd Wd Sh : Nat → Nat) (v o : Nat) (ok : wOk n Kd Wd) (fs : isA n sf Sh) (hS : ∀ j, j < n → Sh j < sp) (hsp : sp ≤ 47045881) (ho : o < 64) (hv2 : v < sp) : Met l yX3_turnedOn wsX3_turnedOn ({ frames := 1, cells := 0, slots := 0, locals := 21 }) (va_Pc [.ref h3, .int (nI v), .int (nI o)] (rB (dC, dI) vwCl [(h3, .inr (3, [.int (nI n), .int (nI h), .int (nI rg), .int (nI sp), .ref hk, .ref hw, .ref hs])), (hk, .inl (cI, 6, .inl kf)), (hw, .inl (cI, 6, .inl wf)), (hs, .inl (cI, 6, .inl sf))] (tyz cI cJ cS))) (QcRead (nI (tOn Sh sp v o n))) 0 0 (fun _ => False) := by
  refine Met.ofW (cc := cX3_turnedOn) (maxL := 5) (ret := (some .int)) (by decide) rfl ?_
  intro p e s m args below meth c s₁ B hml hv
  obtain ⟨rfl, hP, hKK⟩ := hv
  have hK := hKK.1
  have hx := B.exec
  have hb := B.bytes
  have hr := B.returns
  have hts := atoms_spec (ws := wsX3_turnedOn) B.pre
  have hown : s.vm.findClass RX3 = some m.cls := findClass_of_methodNamed B.named
  have hlocks := B.notSynchronized
  have hiX3 : ∀ w ∈ wsX30, w ∈ wsX3_turnedOn := by decide +kernel
  have hl := lv_entry ([.ref h3, .int (nI v), .int (nI o)]) (n := 5) (Nat.le_of_ble_eq_true rfl)
  rw [lg_entry_eq]
  generalize (lg_sl ([.ref h3, .int (nI v), .int (nI o)]) ++ List.replicate (5 - (lg_sl ([.ref h3, .int (nI v), .int (nI o)])).length) Slot.unset).toArray = ls at hl ⊢
  have hl : lv_has ls 5 [(0, .ref h3), (1, .int (nI v)), (2, .int (nI o))] := hl
  have hn6 := ok.1
  refine lv_iload_n hx hb dX3_turnedOn_0 rfl (lv_at hl 1 rfl) ?_
  refine lv_istore_n (lv' := [(3, .int (nI v)), (0, .ref h3), (1, .int (nI v)), (2, .int (nI o))]) hx hb dX3_turnedOn_1 rfl hl (by decide) rfl (fun ls hl => ?_)
  refine lv_iconst (v := (nI 0)) hx hb dX3_turnedOn_2 (by decide) ?_
  refine lv_istore (lv' := [(4, .int (nI 0)), (3, .int (nI v)), (0, .ref h3), (1, .int (nI v)), (2, .int (nI o))]) hx hb dX3_turnedOn_3 hl (by decide) rfl (fun ls hl => ?_)
  refine rl1 (A1 := Nat) (fun ls => W p l e _ s m _ below meth c s.heap [] 0 0 _ (F0 m 5 ls [])) (fun k ls => k ≤ n ∧ lv_has ls 5 [(4, .int (nI k)), (3, .int (nI (tOn Sh sp v o k))), (0, .ref h3), (1, .int (nI v)), (2, .int (nI o))]) (fun k => n - k) ?_ 0 ls ⟨by omega, lv_sub hl [0, 1, 2, 3, 4] rfl⟩
  rintro k ls ⟨hi, hl⟩ ih5
  refine lv_iload hx hb dX3_turnedOn_5 (lv_at hl 0 rfl) ?_
  refine lv_aload_n hx hb dX3_turnedOn_7 rfl (lv_at hl 2 rfl) ?_
  refine va_get (D := (dC, dI)) (ci := 3) (v := .int (nI n)) (C := RX3) (T := TX3) (N := 7) hx hb hts hiX3 hown hK hP 0 rfl rfl 0 (by decide) (hts (.fieldLink RX3 28 "RestRegisters$Wheels" "size" "I") (by decide +kernel)) (fun _ h9 => h9) rfl dX3_turnedOn_8 ?_
  refine rn_icmp_ge (tgt := 44) hx hb dX3_turnedOn_11 (by decide) (by omega) (by omega) (fun c11 => ?_) (fun c11 => ?_)
  · skip
    refine lv_iload_n hx hb dX3_turnedOn_44 rfl (lv_at hl 1 rfl) ?_
    exact rr_iret hx hb hr hlocks dX3_turnedOn_45 (by rw [Nat.le_antisymm hi c11])
  refine lv_iload_n hx hb dX3_turnedOn_14 rfl (lv_at hl 4 rfl) ?_
  refine lv_iload hx hb dX3_turnedOn_15 (lv_at hl 0 rfl) ?_
  refine rr_callR (va_runS (As := [.int (nI o), .int (nI k)]) (rest := []) ⟨hx, hb, hml, hown, hts⟩ (c_X3_isIn l o k (by first | assumption | omega) (by first | assumption | omega)) (va_cwS 2 hts gX3_turnedOn_X3_isIn rfl rfl rfl (by decide +kernel) ⟨Nat.le_of_ble_eq_true rfl, Nat.le_of_ble_eq_true rfl⟩) rr_preT rfl rfl hl.1 rfl (lv_room (Nat.le_of_ble_eq_true rfl)) dX3_turnedOn_17 ⟨Nat.zero_le _, Nat.zero_le _⟩) ?_
  refine rb_if_eq (tgt := 38) hx hb dX3_turnedOn_20 (by decide) (fun c20 => ?_) (fun c20 => ?_)
  · skip
    have hl : lv_has ls 5 [(4, .int (nI k)), (3, .int (nI (tOn Sh sp v o (k + 1)))), (0, .ref h3), (1, .int (nI v)), (2, .int (nI o))] := by rw [tOn, if_neg (by rw [c20]; decide)]; exact hl
    refine lv_iinc (v := (nI (k + 1))) (lv' := [(4, .int (nI (k + 1))), (3, .int (nI (tOn Sh sp v o (k + 1)))), (0, .ref h3), (1, .int (nI v)), (2, .int (nI o))]) hx hb dX3_turnedOn_38 hl (k := 0) rfl (rn_inc k 1) (by decide) rfl (fun ls hl => ?_)
    refine lv_goto (tgt := 5) hx hb dX3_turnedOn_41 (by decide) ?_
    exact ih5 (k + 1) ls ⟨by omega, lv_sub hl [0, 1, 2, 3, 4] rfl⟩ (by omega)
  refine lv_iload_n hx hb dX3_turnedOn_23 rfl (lv_at hl 1 rfl) ?_
  refine lv_aload_n hx hb dX3_turnedOn_24 rfl (lv_at hl 2 rfl) ?_
  refine va_get (D := (dC, dI)) (ci := 3) (v := .ref hs) (C := RX3) (T := TX3) (N := 7) hx hb hts hiX3 hown hK hP 0 rfl rfl 6 (by decide) (hts (.fieldLink RX3 25 "RestRegisters$Wheels" "shares" "[I") (by decide +kernel)) (fun _ h9 => h9) rfl dX3_turnedOn_25 ?_
  refine lv_iload hx hb dX3_turnedOn_28 (lv_at hl 0 rfl) ?_
  refine rn_iald hx hb hK hP 3 0 rfl rfl (i := k) (by omega) (by decide) (v := (nI (Sh k))) (fs k (by omega)) dX3_turnedOn_30 ?_
  have hq1 := hS k (by omega)
  have hq2 := tOn_lt (S := Sh) o hv2 k
  refine rn_iadd hx hb dX3_turnedOn_31 ?_
  refine lv_aload_n hx hb dX3_turnedOn_32 rfl (lv_at hl 2 rfl) ?_
  refine va_get (D := (dC, dI)) (ci := 3) (v := .int (nI sp)) (C := RX3) (T := TX3) (N := 7) hx hb hts hiX3 hown hK hP 0 rfl rfl 3 (by decide) (hts (.fieldLink RX3 15 "RestRegisters$Wheels" "span" "I") (by decide +kernel)) (fun _ h9 => h9) rfl dX3_turnedOn_33 ?_
  refine rn_irem hx hb dX3_turnedOn_36 (by omega) (by omega) (by omega) ?_
  refine rn_top (y := tOn Sh sp v o (k + 1)) (by rw [tOn, if_pos c20]) ?_
  refine lv_istore_n (lv' := [(3, .int (nI (tOn Sh sp v o (k + 1)))), (4, .int (nI k)), (0, .ref h3), (1, .int (nI v)), (2, .int (nI o))]) hx hb dX3_turnedOn_37 rfl hl (by decide) rfl (fun ls hl => ?_)
  refine lv_iinc (v := (nI (k + 1))) (lv' := [(4, .int (nI (k + 1))), (3, .int (nI (tOn Sh sp v o (k + 1)))), (0, .ref h3), (1, .int (nI v)), (2, .int (nI o))]) hx hb dX3_turnedOn_38 hl (k := 1) rfl (rn_inc k 1) (by decide) rfl (fun ls hl => ?_)
  refine lv_goto (tgt := 5) hx hb dX3_turnedOn_41 (by decide) ?_
  exact ih5 (k + 1) ls ⟨by omega, lv_sub hl [0, 1, 2, 3, 4] rfl⟩ (by omega)
set_option maxHeartbeats 4000000 in
set_option maxRecDepth 100000 in
theorem c_X3_unseenCases (l : Launch) (dC : Nat → ClassId) (dI : Nat → Nat → Nat) (cI cJ cS : ClassId) (h3 hk hw hs : Nat) (n h rg sp : Nat) (kf wf sf : Nat → Int32) (Kd Wd Sh : Nat → Nat) (v ch : Nat) (ok : wOk n Kd Wd) (fs : isA n sf Sh) (hS : ∀ j, j < n → Sh j < sp) (hsp : sp ≤ 47045881) (hc2 : ch ≤ 10) (hv2 : v < sp) (hrg : rg < 2 ^ 31) : Met l yX3_unseenCases wsX3_unseenCases ({ frames := 2, cells := 0, slots := 0, locals := 45 }) (va_Pc [.ref h3, .int (nI v), .int (nI ch)] (rB (dC, dI) vwCl [(h3, .inr (3, [.int (nI n), .int (nI h), .int (nI rg), .int (nI sp), .ref hk, .ref hw, .ref hs])), (hk, .inl (cI, 6, .inl kf)), (hw, .inl (cI, 6, .inl wf)), (hs, .inl (cI, 6, .inl sf))] (tyz cI cJ cS))) (QcRead (nI (uC n Sh sp rg v ch (2 ^ n)))) 0 0 (fun _ => False) := by
  refine Met.ofW (cc := cX3_unseenCases) (maxL := 6) (ret := (some .int)) (by decide) rfl ?_
  intro p e s m args below meth c s₁ B hml hv
  obtain ⟨rfl, hP, hKK⟩ := hv
  have hK := hKK.1
  have hx := B.exec
  have hb := B.bytes
  have hr := B.returns
  have hts := atoms_spec (ws := wsX3_unseenCases) B.pre
  have hown : s.vm.findClass RX3 = some m.cls := findClass_of_methodNamed B.named
  have hlocks := B.notSynchronized
  have hiX3 : ∀ w ∈ wsX30, w ∈ wsX3_unseenCases := by decide +kernel
  have hl := lv_entry ([.ref h3, .int (nI v), .int (nI ch)]) (n := 6) (Nat.le_of_ble_eq_true rfl)
  rw [lg_entry_eq]
  generalize (lg_sl ([.ref h3, .int (nI v), .int (nI ch)]) ++ List.replicate (6 - (lg_sl ([.ref h3, .int (nI v), .int (nI ch)])).length) Slot.unset).toArray = ls at hl ⊢
  have hl : lv_has ls 6 [(0, .ref h3), (1, .int (nI v)), (2, .int (nI ch))] := hl
  have hn6 := ok.1
  have h2n := two_b hn6
  refine lv_iconst (v := (nI 0)) hx hb dX3_unseenCases_0 (by decide) ?_
  refine lv_istore_n (lv' := [(3, .int (nI 0)), (0, .ref h3), (1, .int (nI v)), (2, .int (nI ch))]) hx hb dX3_unseenCases_1 rfl hl (by decide) rfl (fun ls hl => ?_)
  refine lv_iconst (v := (nI 1)) hx hb dX3_unseenCases_2 (by decide) ?_
  refine lv_istore (lv' := [(4, .int (nI 1)), (3, .int (nI 0)), (0, .ref h3), (1, .int (nI v)), (2, .int (nI ch))]) hx hb dX3_unseenCases_3 hl (by decide) rfl (fun ls hl => ?_)
  refine rl1 (A1 := Nat) (fun ls => W p l e _ s m _ below meth c s.heap [] 0 0 _ (F0 m 5 ls [])) (fun o ls => o ≤ 2 ^ n ∧ 1 ≤ o ∧ lv_has ls 6 [(4, .int (nI o)), (3, .int (nI (uC n Sh sp rg v ch o))), (0, .ref h3), (1, .int (nI v)), (2, .int (nI ch))]) (fun o => 2 ^ n - o) ?_ 1 ls ⟨by omega, by omega, lv_sub hl [0, 1, 2, 3, 4] rfl⟩
  rintro o ls ⟨hi, h1o, hl⟩ ih5
  refine lv_iload hx hb dX3_unseenCases_5 (lv_at hl 0 rfl) ?_
  refine lv_iconst (v := (nI 1)) hx hb dX3_unseenCases_7 (by decide) ?_
  refine lv_aload_n hx hb dX3_unseenCases_8 rfl (lv_at hl 2 rfl) ?_
  refine va_get (D := (dC, dI)) (ci := 3) (v := .int (nI n)) (C := RX3) (T := TX3) (N := 7) hx hb hts hiX3 hown hK hP 0 rfl rfl 0 (by decide) (hts (.fieldLink RX3 28 "RestRegisters$Wheels" "size" "I") (by decide +kernel)) (fun _ h9 => h9) rfl dX3_unseenCases_9 ?_
  refine lv_ishl hx hb dX3_unseenCases_12 ?_
  refine rr_top (y := (nI (2 ^ n))) (shl_eq (by omega)) ?_
  refine rn_icmp_ge (tgt := 67) hx hb dX3_unseenCases_13 (by decide) (by omega) (by omega) (fun c13 => ?_) (fun c13 => ?_)
  · skip
    refine lv_iload_n hx hb dX3_unseenCases_67 rfl (lv_at hl 1 rfl) ?_
    exact rr_iret hx hb hr hlocks dX3_unseenCases_68 (by rw [Nat.le_antisymm hi c13])
  refine lv_aload_n hx hb dX3_unseenCases_16 rfl (lv_at hl 2 rfl) ?_
  refine lv_iload_n hx hb dX3_unseenCases_17 rfl (lv_at hl 3 rfl) ?_
  refine lv_iload hx hb dX3_unseenCases_18 (lv_at hl 0 rfl) ?_
  refine rr_callR (va_runV (As := [.int (nI v), .int (nI o)]) (rest := []) ⟨hx, hb, hml, hown, hts⟩ (c_X3_turnedOn l dC dI cI cJ cS h3 hk hw hs n h rg sp kf wf sf Kd Wd Sh v o (by first | assumption | omega) (by first | assumption | omega) (by first | assumption | omega) (by first | assumption | omega) (by first | assumption | omega) (by first | assumption | omega)) (cwV 2 hts gX3_unseenCases_X3_turnedOn rfl rfl rfl (by decide +kernel) ⟨Nat.le_of_ble_eq_true rfl, Nat.le_of_ble_eq_true rfl⟩) (rr_preV hKK hP rfl rfl) rfl rfl hl.1 rfl (lv_room (Nat.le_of_ble_eq_true rfl)) dX3_unseenCases_20 ⟨Nat.zero_le _, Nat.zero_le _⟩) ?_
  have hto := tOn_lt (S := Sh) o hv2 n
  refine lv_aload_n hx hb dX3_unseenCases_23 rfl (lv_at hl 2 rfl) ?_
  refine va_get (D := (dC, dI)) (ci := 3) (v := .int (nI rg)) (C := RX3) (T := TX3) (N := 7) hx hb hts hiX3 hown hK hP 0 rfl rfl 2 (by decide) (hts (.fieldLink RX3 9 "RestRegisters$Wheels" "range" "I") (by decide +kernel)) (fun _ h9 => h9) rfl dX3_unseenCases_24 ?_
  refine rn_icmp_ge (tgt := 61) hx hb dX3_unseenCases_27 (by decide) (by omega) (by omega) (fun c27 => ?_) (fun c27 => ?_)
  · skip
    have hl : lv_has ls 6 [(4, .int (nI o)), (3, .int (nI (uC n Sh sp rg v ch (o + 1)))), (0, .ref h3), (1, .int (nI v)), (2, .int (nI ch))] := by rw [uC, if_neg (by omega), if_neg (Nat.not_lt.mpr c27), Nat.add_zero]; exact hl
    refine lv_iinc (v := (nI (o + 1))) (lv' := [(4, .int (nI (o + 1))), (3, .int (nI (uC n Sh sp rg v ch (o + 1)))), (0, .ref h3), (1, .int (nI v)), (2, .int (nI ch))]) hx hb dX3_unseenCases_61 hl (k := 0) rfl (rn_inc o 1) (by decide) rfl (fun ls hl => ?_)
    refine lv_goto (tgt := 5) hx hb dX3_unseenCases_64 (by decide) ?_
    exact ih5 (o + 1) ls ⟨by omega, by omega, lv_sub hl [0, 1, 2, 3, 4] rfl⟩ (by omega)
  refine lv_iload hx hb dX3_unseenCases_30 (lv_at hl 0 rfl) ?_
  refine rr_callR (va_runS (As := [.int (nI o)]) (rest := []) ⟨hx, hb, hml, hown, hts⟩ (c_J6_bitCount_0f7a4 l o (by first | assumption | omega)) (va_cwS 1 hts gX3_unseenCases_J6_bitCount_0f7a4 rfl rfl rfl (by decide +kernel) ⟨Nat.le_of_ble_eq_true rfl, Nat.le_of_ble_eq_true rfl⟩) rr_preT rfl rfl hl.1 rfl (lv_room (Nat.le_of_ble_eq_true rfl)) dX3_unseenCases_32 ⟨Nat.zero_le _, Nat.zero_le _⟩) ?_
  refine lv_istore (lv' := [(5, .int (nI (popc o))), (4, .int (nI o)), (3, .int (nI (uC n Sh sp rg v ch o))), (0, .ref h3), (1, .int (nI v)), (2, .int (nI ch))]) hx hb dX3_unseenCases_35 hl (by decide) rfl (fun ls hl => ?_)
  have hpc := popc_b (x := o) hn6 (by omega)
  refine lv_iload_n hx hb dX3_unseenCases_37 rfl (lv_at hl 2 rfl) ?_
  refine lv_iload_n hx hb dX3_unseenCases_38 rfl (lv_at hl 5 rfl) ?_
  refine lv_iload hx hb dX3_unseenCases_39 (lv_at hl 0 rfl) ?_
  refine rr_callR (va_runSN (As := [.int (nI ch), .int (nI (popc o))]) (rest := [.int (nI (uC n Sh sp rg v ch o))]) ⟨hx, hb, hml, hown, hts⟩ (c_X4_power l ch (popc o) (by first | assumption | omega)) ⟨va_cnB 2 hts gX3_unseenCases_X4_power_n89 rfl rfl rfl hKK.2.2.2.2.2.2.2 (hts (.initialized RX4) (by decide +kernel)) (by decide +kernel) ⟨Nat.le_of_ble_eq_true rfl, Nat.le_of_ble_eq_true rfl⟩, hts (.static yX4_power) (by decide +kernel), trivial⟩ rr_preT rfl rfl hl.1 rfl (lv_room (Nat.le_of_ble_eq_true rfl)) dX3_unseenCases_41 ⟨Nat.zero_le _, Nat.zero_le _⟩) ?_
  refine lv_bipush (v := (nI 10)) hx hb dX3_unseenCases_44 (by decide) ?_
  refine lv_iload_n hx hb dX3_unseenCases_46 rfl (lv_at hl 5 rfl) ?_
  refine rn_isub hx hb dX3_unseenCases_47 (by omega) ?_
  refine lv_aload_n hx hb dX3_unseenCases_48 rfl (lv_at hl 3 rfl) ?_
  refine va_get (D := (dC, dI)) (ci := 3) (v := .int (nI n)) (C := RX3) (T := TX3) (N := 7) hx hb hts hiX3 hown hK hP 0 rfl rfl 0 (by decide) (hts (.fieldLink RX3 28 "RestRegisters$Wheels" "size" "I") (by decide +kernel)) (fun _ h9 => h9) rfl dX3_unseenCases_49 ?_
  refine lv_iload hx hb dX3_unseenCases_52 (lv_at hl 0 rfl) ?_
  refine rn_isub hx hb dX3_unseenCases_54 (by omega) ?_
  refine rr_callR (va_runSN (As := [.int (nI (10 - ch)), .int (nI (n - (popc o)))]) (rest := [.int (nI (ch ^ (popc o))), .int (nI (uC n Sh sp rg v ch o))]) ⟨hx, hb, hml, hown, hts⟩ (c_X4_power l (10 - ch) (n - (popc o)) (by first | assumption | omega)) ⟨va_cnB 2 hts gX3_unseenCases_X4_power_n89 rfl rfl rfl hKK.2.2.2.2.2.2.2 (hts (.initialized RX4) (by decide +kernel)) (by decide +kernel) ⟨Nat.le_of_ble_eq_true rfl, Nat.le_of_ble_eq_true rfl⟩, hts (.static yX4_power) (by decide +kernel), trivial⟩ rr_preT rfl rfl hl.1 rfl (lv_room (Nat.le_of_ble_eq_true rfl)) dX3_unseenCases_55 ⟨Nat.zero_le _, Nat.zero_le _⟩) ?_
  refine rn_imul hx hb dX3_unseenCases_58 ?_
  refine rn_iadd hx hb dX3_unseenCases_59 ?_
  refine rn_top (y := uC n Sh sp rg v ch (o + 1)) (by rw [uC, if_neg (by omega), if_pos c27]) ?_
  refine lv_istore_n (lv' := [(3, .int (nI (uC n Sh sp rg v ch (o + 1)))), (5, .int (nI (popc o))), (4, .int (nI o)), (0, .ref h3), (1, .int (nI v)), (2, .int (nI ch))]) hx hb dX3_unseenCases_60 rfl hl (by decide) rfl (fun ls hl => ?_)
  refine lv_iinc (v := (nI (o + 1))) (lv' := [(4, .int (nI (o + 1))), (3, .int (nI (uC n Sh sp rg v ch (o + 1)))), (5, .int (nI (popc o))), (0, .ref h3), (1, .int (nI v)), (2, .int (nI ch))]) hx hb dX3_unseenCases_61 hl (k := 2) rfl (rn_inc o 1) (by decide) rfl (fun ls hl => ?_)
  refine lv_goto (tgt := 5) hx hb dX3_unseenCases_64 (by decide) ?_
  exact ih5 (o + 1) ls ⟨by omega, by omega, lv_sub hl [0, 1, 3, 4, 5] rfl⟩ (by omega)
set_option maxHeartbeats 4000000 in
set_option maxRecDepth 100000 in
theorem c_X3_howManyFrom (l : Launch) (dC : Nat → ClassId) (dI : Nat → Nat → Nat) (cI cJ cS : ClassId) (h3 hk hw hs : Nat) (n h rg sp : Nat) (kf wf sf : Nat → Int32) (Kd Wd Sh : Nat → Nat) (v o : Nat) (ok : wOk n Kd Wd) (fw : isA n wf Wd) (ho : o < 64) (hv2 : v < rg) (hrg : rg < 2 ^ 31) : Met l yX3_howManyFrom wsX3_howManyFrom ({ frames := 2, cells := 0, slots := 0, locals := 44 }) (va_Pc [.ref h3, .int (nI v), .int (nI o)] (rB (dC, dI) vwCl [(h3, .inr (3, [.int (nI n), .int (nI h), .int (nI rg), .int (nI sp), .ref hk, .ref hw, .ref hs])), (hk, .inl (cI, 6, .inl kf)), (hw, .inl (cI, 6, .inl wf)), (hs, .inl (cI, 6, .inl sf))] (tyz cI cJ cS))) (QcRead (nI ((rg - 1 - v) / prO Wd o n + 1))) 0 0 (fun _ => False) := by
  refine Met.ofW (cc := cX3_howManyFrom) (maxL := 3) (ret := (some .int)) (by decide) rfl ?_
  intro p e s m args below meth c s₁ B hml hv
  obtain ⟨rfl, hP, hKK⟩ := hv
  have hK := hKK.1
  have hx := B.exec
  have hb := B.bytes
  have hr := B.returns
  have hts := atoms_spec (ws := wsX3_howManyFrom) B.pre
  have hown : s.vm.findClass RX3 = some m.cls := findClass_of_methodNamed B.named
  have hlocks := B.notSynchronized
  have hiX3 : ∀ w ∈ wsX30, w ∈ wsX3_howManyFrom := by decide +kernel
  have hl := lv_entry ([.ref h3, .int (nI v), .int (nI o)]) (n := 3) (Nat.le_of_ble_eq_true rfl)
  rw [lg_entry_eq]
  generalize (lg_sl ([.ref h3, .int (nI v), .int (nI o)]) ++ List.replicate (3 - (lg_sl ([.ref h3, .int (nI v), .int (nI o)])).length) Slot.unset).toArray = ls at hl ⊢
  have hl : lv_has ls 3 [(0, .ref h3), (1, .int (nI v)), (2, .int (nI o))] := hl
  have hn6 := ok.1
  refine lv_aload_n hx hb dX3_howManyFrom_0 rfl (lv_at hl 0 rfl) ?_
  refine va_get (D := (dC, dI)) (ci := 3) (v := .int (nI rg)) (C := RX3) (T := TX3) (N := 7) hx hb hts hiX3 hown hK hP 0 rfl rfl 2 (by decide) (hts (.fieldLink RX3 9 "RestRegisters$Wheels" "range" "I") (by decide +kernel)) (fun _ h9 => h9) rfl dX3_howManyFrom_1 ?_
  refine lv_iconst (v := (nI 1)) hx hb dX3_howManyFrom_4 (by decide) ?_
  refine rn_isub hx hb dX3_howManyFrom_5 (by omega) ?_
  refine lv_iload_n hx hb dX3_howManyFrom_6 rfl (lv_at hl 1 rfl) ?_
  refine rn_isub hx hb dX3_howManyFrom_7 (by omega) ?_
  refine lv_aload_n hx hb dX3_howManyFrom_8 rfl (lv_at hl 0 rfl) ?_
  refine lv_iload_n hx hb dX3_howManyFrom_9 rfl (lv_at hl 2 rfl) ?_
  refine rr_callR (va_runV (As := [.int (nI o)]) (rest := [.int (nI (rg - 1 - v))]) ⟨hx, hb, hml, hown, hts⟩ (c_X3_product l dC dI cI cJ cS h3 hk hw hs n h rg sp kf wf sf Kd Wd Sh o (by first | assumption | omega) (by first | assumption | omega) (by first | assumption | omega)) (cwV 1 hts gX3_howManyFrom_X3_product rfl rfl rfl (by decide +kernel) ⟨Nat.le_of_ble_eq_true rfl, Nat.le_of_ble_eq_true rfl⟩) (rr_preV hKK hP rfl rfl) rfl rfl hl.1 rfl (lv_room (Nat.le_of_ble_eq_true rfl)) dX3_howManyFrom_10 ⟨Nat.zero_le _, Nat.zero_le _⟩) ?_
  have hpb := prO_b ok o (Nat.le_refl n)
  refine rn_idiv hx hb dX3_howManyFrom_13 (by omega) (by omega) (by omega) ?_
  refine lv_iconst (v := (nI 1)) hx hb dX3_howManyFrom_14 (by decide) ?_
  refine rn_iadd hx hb dX3_howManyFrom_15 ?_
  exact rr_iret hx hb hr hlocks dX3_howManyFrom_16 (rfl)
