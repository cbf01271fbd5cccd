set_option maxHeartbeats 4000000 in
set_option maxRecDepth 100000 in
theorem c_X5_against (l : Launch) (dC : Nat → ClassId) (dI : Nat → Nat → Nat) (cI cJ cS : ClassId) (m0 mw mt ml mz mi mr md mh : Nat) (im : Bool) (tl at0 st0 nu rm rh : Nat) (Th : Nat → Bool) (Ln Sz : Nat → Nat) (sh : Nat) (wl i t : Int32) (hz : ∀ j, j < 4 → Sz j ≤ 24) (hl3 : ∀ j, j < 4 → Ln j ≤ 3) (hs4 : sh < 4) : Met l yX5_against wsX5_against ({ frames := 0, cells := 0, slots := 0, locals := 0 }) (va_Pc [.ref m0, .int (nI sh), .int wl, .int i, .int t] (rB (dC, dI) vwCl [(m0, .inr (5, [.ref mw, .int (bi im), .ref mt, .int (nI tl), .ref ml, .ref mz, .ref mi, .ref mr, .int (nI at0), .int (nI st0), .int (nI nu), .int (nI rm), .int (nI rh), .ref md, .ref mh])), (ml, .inl (cI, 4, .inl (laF Th Ln))), (mz, .inl (cI, 4, .inl (nA Sz)))] (tyz cI cJ cS))) (QcRead (refI (Th sh) (Ln sh) (Sz sh) wl i t)) 0 0 (fun _ => False) := by
  refine Met.ofW (cc := cX5_against) (maxL := 5) (ret := (some .int)) (by decide) rfl ?_
  intro p e s m args below meth c s₁ B hml hv
  obtain ⟨rfl, hP, hKK⟩ := hv
  have hK := hKK.1
  have hx := B.exec
  have hb := B.bytes
  have hr := B.returns
  have hts := atoms_spec (ws := wsX5_against) B.pre
  have hown : s.vm.findClass RX5 = some m.cls := findClass_of_methodNamed B.named
  have hlocks := B.notSynchronized
  have hiX5 : ∀ w ∈ wsX50, w ∈ wsX5_against := by decide +kernel
  have hl := lv_entry ([.ref m0, .int (nI sh), .int wl, .int i, .int t]) (n := 5) (Nat.le_of_ble_eq_true rfl)
  rw [lg_entry_eq]
  generalize (lg_sl ([.ref m0, .int (nI sh), .int wl, .int i, .int t]) ++ List.replicate (5 - (lg_sl ([.ref m0, .int (nI sh), .int wl, .int i, .int t])).length) Slot.unset).toArray = ls at hl ⊢
  have hl : lv_has ls 5 [(0, .ref m0), (1, .int (nI sh)), (2, .int wl), (3, .int i), (4, .int t)] := hl
  have hzs := hz sh hs4
  have hls := hl3 sh hs4
  refine lv_aload_n hx hb dX5_against_0 rfl (lv_at hl 0 rfl) ?_
  refine va_get (D := (dC, dI)) (ci := 5) (v := .ref ml) (C := RX5) (T := TX5) (N := 15) hx hb hts hiX5 hown hK hP 0 rfl rfl 4 (by decide) (hts (.fieldLink RX5 16 "RestRegistersModel" "lane" "[I") (by decide +kernel)) (fun _ h9 => h9) rfl dX5_against_1 ?_
  refine lv_iload_n hx hb dX5_against_4 rfl (lv_at hl 1 rfl) ?_
  refine rn_iald hx hb hK hP 1 0 rfl rfl (i := sh) (by omega) (by decide) (v := ((laF Th Ln) sh)) rfl dX5_against_5 ?_
  refine lv_if_ge (tgt := 12) hx hb dX5_against_6 (by decide) (fun c6 => ?_) (fun c6 => ?_)
  · skip
    have hth : Th sh = true := laF_t c6
    refine lv_aload_n hx hb dX5_against_12 rfl (lv_at hl 0 rfl) ?_
    refine va_get (D := (dC, dI)) (ci := 5) (v := .ref ml) (C := RX5) (T := TX5) (N := 15) hx hb hts hiX5 hown hK hP 0 rfl rfl 4 (by decide) (hts (.fieldLink RX5 16 "RestRegistersModel" "lane" "[I") (by decide +kernel)) (fun _ h9 => h9) rfl dX5_against_13 ?_
    refine lv_iload_n hx hb dX5_against_16 rfl (lv_at hl 1 rfl) ?_
    refine rn_iald hx hb hK hP 1 0 rfl rfl (i := sh) (by omega) (by decide) (v := ((laF Th Ln) sh)) rfl dX5_against_17 ?_
    refine lv_iload_n hx hb dX5_against_18 rfl (lv_at hl 2 rfl) ?_
    refine lv_icmp_eq (tgt := 25) hx hb dX5_against_19 (by decide) (fun c19 => ?_) (fun c19 => ?_)
    · skip
      refine lv_iload_n hx hb dX5_against_25 rfl (lv_at hl 3 rfl) ?_
      refine lv_if_lt (tgt := 51) hx hb dX5_against_26 (by decide) (fun c26 => ?_) (fun c26 => ?_)
      · skip
        refine lv_bipush (v := (-13)) hx hb dX5_against_51 (by decide) ?_
        refine lv_goto (tgt := 57) hx hb dX5_against_53 (by decide) ?_
        exact rr_iret hx hb hr hlocks dX5_against_57 (by unfold refI; rw [if_neg (by rw [hth]; decide), if_pos ((laF_e hth).symm.trans c19)]; first | (rw [hasS_L hzs c26 c31 c48]; rfl) | (rw [hasS_LF hzs (Or.inr (Or.inr c48))]; rfl) | (rw [hasS_LF hzs (Or.inr (Or.inl c31))]; rfl) | (rw [hasS_LF hzs (Or.inl c26)]; rfl))
      refine lv_iload hx hb dX5_against_29 (lv_at hl 4 rfl) ?_
      refine lv_if_lt (tgt := 51) hx hb dX5_against_31 (by decide) (fun c31 => ?_) (fun c31 => ?_)
      · skip
        refine lv_bipush (v := (-13)) hx hb dX5_against_51 (by decide) ?_
        refine lv_goto (tgt := 57) hx hb dX5_against_53 (by decide) ?_
        exact rr_iret hx hb hr hlocks dX5_against_57 (by unfold refI; rw [if_neg (by rw [hth]; decide), if_pos ((laF_e hth).symm.trans c19)]; first | (rw [hasS_L hzs c26 c31 c48]; rfl) | (rw [hasS_LF hzs (Or.inr (Or.inr c48))]; rfl) | (rw [hasS_LF hzs (Or.inr (Or.inl c31))]; rfl) | (rw [hasS_LF hzs (Or.inl c26)]; rfl))
      refine lv_iload_n hx hb dX5_against_34 rfl (lv_at hl 3 rfl) ?_
      refine lv_i2l hx hb dX5_against_35 rfl ?_
      refine lv_iload hx hb dX5_against_36 (lv_at hl 4 rfl) ?_
      refine lv_i2l hx hb dX5_against_38 rfl ?_
      refine lv_ladd hx hb dX5_against_39 ?_
      refine lv_aload_n hx hb dX5_against_40 rfl (lv_at hl 0 rfl) ?_
      refine va_get (D := (dC, dI)) (ci := 5) (v := .ref mz) (C := RX5) (T := TX5) (N := 15) hx hb hts hiX5 hown hK hP 0 rfl rfl 5 (by decide) (hts (.fieldLink RX5 19 "RestRegistersModel" "size" "[I") (by decide +kernel)) (fun _ h9 => h9) rfl dX5_against_41 ?_
      refine lv_iload_n hx hb dX5_against_44 rfl (lv_at hl 1 rfl) ?_
      refine rn_iald hx hb hK hP 2 0 rfl rfl (i := sh) (by omega) (by decide) (v := (nI (Sz sh))) rfl dX5_against_45 ?_
      refine lv_i2l hx hb dX5_against_46 rfl ?_
      refine W.lcmp hx hb dX5_against_47 ?_
      refine lv_if_le (tgt := 56) hx hb dX5_against_48 (by decide) (fun c48 => ?_) (fun c48 => ?_)
      · skip
        refine lv_iconst (v := (nI 0)) hx hb dX5_against_56 (by decide) ?_
        exact rr_iret hx hb hr hlocks dX5_against_57 (by unfold refI; rw [if_neg (by rw [hth]; decide), if_pos ((laF_e hth).symm.trans c19)]; first | (rw [hasS_L hzs c26 c31 c48]; rfl) | (rw [hasS_LF hzs (Or.inr (Or.inr c48))]; rfl) | (rw [hasS_LF hzs (Or.inr (Or.inl c31))]; rfl) | (rw [hasS_LF hzs (Or.inl c26)]; rfl))
      refine lv_bipush (v := (-13)) hx hb dX5_against_51 (by decide) ?_
      refine lv_goto (tgt := 57) hx hb dX5_against_53 (by decide) ?_
      exact rr_iret hx hb hr hlocks dX5_against_57 (by unfold refI; rw [if_neg (by rw [hth]; decide), if_pos ((laF_e hth).symm.trans c19)]; first | (rw [hasS_L hzs c26 c31 c48]; rfl) | (rw [hasS_LF hzs (Or.inr (Or.inr c48))]; rfl) | (rw [hasS_LF hzs (Or.inr (Or.inl c31))]; rfl) | (rw [hasS_LF hzs (Or.inl c26)]; rfl))
    refine lv_bipush (v := (-12)) hx hb dX5_against_22 (by decide) ?_
    exact rr_iret hx hb hr hlocks dX5_against_24 (by unfold refI; rw [if_neg (by rw [hth]; decide), if_neg (fun q => c19 ((laF_e hth).trans q))])
  have hth : Th sh = false := laF_f hls c6
  refine lv_bipush (v := (-11)) hx hb dX5_against_9 (by decide) ?_
  exact rr_iret hx hb hr hlocks dX5_against_11 (by unfold refI; rw [if_pos hth])
set_option maxHeartbeats 4000000 in
set_option maxRecDepth 100000 in
theorem c_X5_sawSo (l : Launch) (dC : Nat → ClassId) (dI : Nat → Nat → Nat) (cI cJ cS : ClassId) (m0 mw mt ml mz mi mr md mh : Nat) (im : Bool) (tl at0 st0 nu rm rh : Nat) (It : Nat → Int64) (kd w f t : Nat) (hkd : kd ≤ 4) (hw2 : 2 ≤ w) (hwb : w ≤ 19) (hf : f + 3 * t ≤ 96) : Met l yX5_sawSo wsX5_sawSo ({ frames := 3, cells := 0, slots := 0, locals := 68 }) (va_Pc [.ref m0, .int (nI kd), .int (nI w), .int (nI f), .int (nI t)] (rB (dC, dI) vwCl [(m0, .inr (5, [.ref mw, .int (bi im), .ref mt, .int (nI tl), .ref ml, .ref mz, .ref mi, .ref mr, .int (nI at0), .int (nI st0), .int (nI nu), .int (nI rm), .int (nI rh), .ref md, .ref mh])), (mi, .inl (cJ, 96, .inr (.inl It)))] (tyz cI cJ cS))) (QcRead (bi (skB kd w It f t))) 0 0 (fun _ => False) := by
  refine Met.ofW (cc := cX5_sawSo) (maxL := 12) (ret := (some .boolean)) (by decide) rfl ?_
  intro p e s m args below meth c s₁ B hml hv
  obtain ⟨rfl, hP, hKK⟩ := hv
  have hK := hKK.1
  have hx := B.exec
  have hb := B.bytes
  have hr := B.returns
  have hts := atoms_spec (ws := wsX5_sawSo) B.pre
  have hown : s.vm.findClass RX5 = some m.cls := findClass_of_methodNamed B.named
  have hlocks := B.notSynchronized
  have hiX5 : ∀ w ∈ wsX50, w ∈ wsX5_sawSo := by decide +kernel
  have hl := lv_entry ([.ref m0, .int (nI kd), .int (nI w), .int (nI f), .int (nI t)]) (n := 12) (Nat.le_of_ble_eq_true rfl)
  rw [lg_entry_eq]
  generalize (lg_sl ([.ref m0, .int (nI kd), .int (nI w), .int (nI f), .int (nI t)]) ++ List.replicate (12 - (lg_sl ([.ref m0, .int (nI kd), .int (nI w), .int (nI f), .int (nI t)])).length) Slot.unset).toArray = ls at hl ⊢
  have hl : lv_has ls 12 [(0, .ref m0), (1, .int (nI kd)), (2, .int (nI w)), (3, .int (nI f)), (4, .int (nI t))] := hl
  refine lv_iconst (v := (nI 1)) hx hb dX5_sawSo_0 (by decide) ?_
  refine lv_istore (lv' := [(5, .int (nI 1)), (0, .ref m0), (1, .int (nI kd)), (2, .int (nI w)), (3, .int (nI f)), (4, .int (nI t))]) hx hb dX5_sawSo_1 hl (by decide) rfl (fun ls hl => ?_)
  refine lv_iconst (v := (nI 0)) hx hb dX5_sawSo_3 (by decide) ?_
  refine lv_istore (lv' := [(6, .int (nI 0)), (5, .int (nI 1)), (0, .ref m0), (1, .int (nI kd)), (2, .int (nI w)), (3, .int (nI f)), (4, .int (nI t))]) hx hb dX5_sawSo_4 hl (by decide) rfl (fun ls hl => ?_)
  have hl : lv_has ls 12 [(6, .int (nI 0)), (5, .int (bi (skB kd w It f 0))), (0, .ref m0), (1, .int (nI kd)), (2, .int (nI w)), (3, .int (nI f)), (4, .int (nI t))] := hl
  refine rl1 (A1 := Nat) (fun ls => W p l e _ s m _ below meth c s.heap [] 0 0 _ (F0 m 6 ls [])) (fun e2 ls => e2 ≤ t ∧ lv_has ls 12 [(6, .int (nI e2)), (5, .int (bi (skB kd w It f e2))), (0, .ref m0), (1, .int (nI kd)), (2, .int (nI w)), (3, .int (nI f)), (4, .int (nI t))]) (fun e2 => t - e2) ?_ 0 ls ⟨by omega, lv_sub hl [0, 1, 2, 3, 4, 5, 6] rfl⟩
  rintro e2 ls ⟨he, hl⟩ ih6
  refine lv_iload hx hb dX5_sawSo_6 (lv_at hl 0 rfl) ?_
  refine lv_iload hx hb dX5_sawSo_8 (lv_at hl 6 rfl) ?_
  refine rn_icmp_ge (tgt := 126) hx hb dX5_sawSo_10 (by decide) (by omega) (by omega) (fun c10 => ?_) (fun c10 => ?_)
  · skip
    refine lv_iload hx hb dX5_sawSo_126 (lv_at hl 1 rfl) ?_
    exact rr_zret hx hb hr hlocks dX5_sawSo_128 (by rw [Nat.le_antisymm he c10])
  refine lv_aload_n hx hb dX5_sawSo_13 rfl (lv_at hl 2 rfl) ?_
  refine va_get (D := (dC, dI)) (ci := 5) (v := .ref mi) (C := RX5) (T := TX5) (N := 15) hx hb hts hiX5 hown hK hP 0 rfl rfl 6 (by decide) (hts (.fieldLink RX5 22 "RestRegistersModel" "items" "[J") (by decide +kernel)) (fun _ h9 => h9) rfl dX5_sawSo_14 ?_
  refine lv_iload_n hx hb dX5_sawSo_17 rfl (lv_at hl 5 rfl) ?_
  refine lv_iconst (v := (nI 3)) hx hb dX5_sawSo_18 (by decide) ?_
  refine lv_iload hx hb dX5_sawSo_19 (lv_at hl 0 rfl) ?_
  refine rn_imul hx hb dX5_sawSo_21 ?_
  refine rn_iadd hx hb dX5_sawSo_22 ?_
  refine rn_lald hx hb hK hP 1 1 rfl rfl (i := f + (3 * e2)) (by omega) (by decide) (v := (It (f + (3 * e2)))) rfl dX5_sawSo_23 ?_
  refine lv_lstore (lv' := [(7, .long (It (f + (3 * e2)))), (6, .int (nI e2)), (5, .int (bi (skB kd w It f e2))), (0, .ref m0), (1, .int (nI kd)), (2, .int (nI w)), (3, .int (nI f)), (4, .int (nI t))]) hx hb dX5_sawSo_24 hl (by decide) rfl (fun ls hl => ?_)
  refine lv_aload_n hx hb dX5_sawSo_26 rfl (lv_at hl 3 rfl) ?_
  refine va_get (D := (dC, dI)) (ci := 5) (v := .ref mi) (C := RX5) (T := TX5) (N := 15) hx hb hts hiX5 hown hK hP 0 rfl rfl 6 (by decide) (hts (.fieldLink RX5 22 "RestRegistersModel" "items" "[J") (by decide +kernel)) (fun _ h9 => h9) rfl dX5_sawSo_27 ?_
  refine lv_iload_n hx hb dX5_sawSo_30 rfl (lv_at hl 6 rfl) ?_
  refine lv_iconst (v := (nI 3)) hx hb dX5_sawSo_31 (by decide) ?_
  refine lv_iload hx hb dX5_sawSo_32 (lv_at hl 1 rfl) ?_
  refine rn_imul hx hb dX5_sawSo_34 ?_
  refine rn_iadd hx hb dX5_sawSo_35 ?_
  refine lv_iconst (v := (nI 1)) hx hb dX5_sawSo_36 (by decide) ?_
  refine rn_iadd hx hb dX5_sawSo_37 ?_
  refine rn_lald hx hb hK hP 1 1 rfl rfl (i := f + (3 * e2) + 1) (by omega) (by decide) (v := (It (f + (3 * e2) + 1))) rfl dX5_sawSo_38 ?_
  refine lv_lstore (lv' := [(9, .long (It (f + (3 * e2) + 1))), (7, .long (It (f + (3 * e2)))), (6, .int (nI e2)), (5, .int (bi (skB kd w It f e2))), (0, .ref m0), (1, .int (nI kd)), (2, .int (nI w)), (3, .int (nI f)), (4, .int (nI t))]) hx hb dX5_sawSo_39 hl (by decide) rfl (fun ls hl => ?_)
  refine lv_lload hx hb dX5_sawSo_41 (lv_at hl 1 rfl) ?_
  refine lv_lconst (v := 0) hx hb dX5_sawSo_43 (by decide) ?_
  refine lv_iload_n hx hb dX5_sawSo_44 rfl (lv_at hl 6 rfl) ?_
  refine lv_iconst (v := (nI 1)) hx hb dX5_sawSo_45 (by decide) ?_
  refine lv_isub hx hb dX5_sawSo_46 ?_
  refine lv_i2l hx hb dX5_sawSo_47 rfl ?_
  refine rr_callR (va_runS (As := [.long (It (f + (3 * e2))), .long 0, .long (((nI w) - (nI 1)).toInt64)]) (rest := []) ⟨hx, hb, hml, hown, hts⟩ (c_X5_in l (It (f + (3 * e2))) 0 (((nI w) - (nI 1)).toInt64) ) (va_cwS 3 hts gX5_sawSo_X5_in rfl rfl rfl (by decide +kernel) ⟨Nat.le_of_ble_eq_true rfl, Nat.le_of_ble_eq_true rfl⟩) rr_preT rfl rfl hl.1 rfl (lv_room (Nat.le_of_ble_eq_true rfl)) dX5_sawSo_48 ⟨Nat.zero_le _, Nat.zero_le _⟩) ?_
  refine rb_if_eq (tgt := 71) hx hb dX5_sawSo_51 (by decide) (fun c51 => ?_) (fun c51 => ?_)
  · skip
    refine lv_iconst (v := (nI 0)) hx hb dX5_sawSo_71 (by decide) ?_
    refine rr_top (y := bi false) rfl ?_
    refine lv_istore (lv' := [(11, .int (bi false)), (9, .long (It (f + (3 * e2) + 1))), (7, .long (It (f + (3 * e2)))), (6, .int (nI e2)), (5, .int (bi (skB kd w It f e2))), (0, .ref m0), (1, .int (nI kd)), (2, .int (nI w)), (3, .int (nI f)), (4, .int (nI t))]) hx hb dX5_sawSo_72 hl (by decide) rfl (fun ls hl => ?_)
    refine lv_iload hx hb dX5_sawSo_74 (lv_at hl 4 rfl) ?_
    refine rb_if_eq (tgt := 117) hx hb dX5_sawSo_76 (by decide) (fun c76 => ?_) (fun c76 => ?_)
    · skip
      refine lv_iconst (v := (nI 0)) hx hb dX5_sawSo_117 (by decide) ?_
      refine rr_top (y := bi (skB kd w It f (e2 + 1))) (by rw [skB]; first | (rw [c76, show okT kd w It (f + 3 * e2) = true from decide_eq_true ⟨hra, hrb, cmp_eq.mp c110⟩]; rfl) | (rw [c76, show okT kd w It (f + 3 * e2) = false from decide_eq_false (fun q => c110 (cmp_eq.mpr q.2.2))]; rfl) | (rw [show okT kd w It (f + 3 * e2) = false from decide_eq_false (fun q => (of_decide_eq_false c64) (by have z0 : (0 : Int64).toInt = 0 := rfl; have zw : (nI w - nI 1).toInt64.toInt = (w : Int) - 1 := (by rw [Int32.toInt_toInt64, pk_sub_toInt (by omega) (by omega)]; rfl); have q2 := q.2.1; omega)), Bool.and_false]; rfl) | (rw [show okT kd w It (f + 3 * e2) = false from decide_eq_false (fun q => (of_decide_eq_false c51) (by have z0 : (0 : Int64).toInt = 0 := rfl; have zw : (nI w - nI 1).toInt64.toInt = (w : Int) - 1 := (by rw [Int32.toInt_toInt64, pk_sub_toInt (by omega) (by omega)]; rfl); have q2 := q.1; omega)), Bool.and_false]; rfl) | (rw [c76]; rfl)) ?_
      refine lv_istore (lv' := [(5, .int (bi (skB kd w It f (e2 + 1)))), (11, .int (bi false)), (9, .long (It (f + (3 * e2) + 1))), (7, .long (It (f + (3 * e2)))), (6, .int (nI e2)), (0, .ref m0), (1, .int (nI kd)), (2, .int (nI w)), (3, .int (nI f)), (4, .int (nI t))]) hx hb dX5_sawSo_118 hl (by decide) rfl (fun ls hl => ?_)
      refine lv_iinc (v := (nI (e2 + 1))) (lv' := [(6, .int (nI (e2 + 1))), (5, .int (bi (skB kd w It f (e2 + 1)))), (11, .int (bi false)), (9, .long (It (f + (3 * e2) + 1))), (7, .long (It (f + (3 * e2)))), (0, .ref m0), (1, .int (nI kd)), (2, .int (nI w)), (3, .int (nI f)), (4, .int (nI t))]) hx hb dX5_sawSo_120 hl (k := 4) rfl (rn_inc e2 1) (by decide) rfl (fun ls hl => ?_)
      refine lv_goto (tgt := 6) hx hb dX5_sawSo_123 (by decide) ?_
      exact ih6 (e2 + 1) ls ⟨by omega, lv_sub hl [0, 1, 5, 6, 7, 8, 9] rfl⟩ (by omega)
    refine lv_iload hx hb dX5_sawSo_79 (lv_at hl 0 rfl) ?_
    refine rb_if_eq (tgt := 117) hx hb dX5_sawSo_81 (by decide) (fun c81 => ?_) (fun c81 => ?_)
    rotate_left
    · exact absurd c81 (by decide)
    refine lv_iconst (v := (nI 0)) hx hb dX5_sawSo_117 (by decide) ?_
    refine rr_top (y := bi (skB kd w It f (e2 + 1))) (by rw [skB]; first | (rw [c76, show okT kd w It (f + 3 * e2) = true from decide_eq_true ⟨hra, hrb, cmp_eq.mp c110⟩]; rfl) | (rw [c76, show okT kd w It (f + 3 * e2) = false from decide_eq_false (fun q => c110 (cmp_eq.mpr q.2.2))]; rfl) | (rw [show okT kd w It (f + 3 * e2) = false from decide_eq_false (fun q => (of_decide_eq_false c64) (by have z0 : (0 : Int64).toInt = 0 := rfl; have zw : (nI w - nI 1).toInt64.toInt = (w : Int) - 1 := (by rw [Int32.toInt_toInt64, pk_sub_toInt (by omega) (by omega)]; rfl); have q2 := q.2.1; omega)), Bool.and_false]; rfl) | (rw [show okT kd w It (f + 3 * e2) = false from decide_eq_false (fun q => (of_decide_eq_false c51) (by have z0 : (0 : Int64).toInt = 0 := rfl; have zw : (nI w - nI 1).toInt64.toInt = (w : Int) - 1 := (by rw [Int32.toInt_toInt64, pk_sub_toInt (by omega) (by omega)]; rfl); have q2 := q.1; omega)), Bool.and_false]; rfl) | (rw [c76]; rfl)) ?_
    refine lv_istore (lv' := [(5, .int (bi (skB kd w It f (e2 + 1)))), (11, .int (bi false)), (9, .long (It (f + (3 * e2) + 1))), (7, .long (It (f + (3 * e2)))), (6, .int (nI e2)), (0, .ref m0), (1, .int (nI kd)), (2, .int (nI w)), (3, .int (nI f)), (4, .int (nI t))]) hx hb dX5_sawSo_118 hl (by decide) rfl (fun ls hl => ?_)
    refine lv_iinc (v := (nI (e2 + 1))) (lv' := [(6, .int (nI (e2 + 1))), (5, .int (bi (skB kd w It f (e2 + 1)))), (11, .int (bi false)), (9, .long (It (f + (3 * e2) + 1))), (7, .long (It (f + (3 * e2)))), (0, .ref m0), (1, .int (nI kd)), (2, .int (nI w)), (3, .int (nI f)), (4, .int (nI t))]) hx hb dX5_sawSo_120 hl (k := 4) rfl (rn_inc e2 1) (by decide) rfl (fun ls hl => ?_)
    refine lv_goto (tgt := 6) hx hb dX5_sawSo_123 (by decide) ?_
    exact ih6 (e2 + 1) ls ⟨by omega, lv_sub hl [0, 1, 5, 6, 7, 8, 9] rfl⟩ (by omega)
  refine lv_lload hx hb dX5_sawSo_54 (lv_at hl 0 rfl) ?_
  refine lv_lconst (v := 0) hx hb dX5_sawSo_56 (by decide) ?_
  refine lv_iload_n hx hb dX5_sawSo_57 rfl (lv_at hl 6 rfl) ?_
  refine lv_iconst (v := (nI 1)) hx hb dX5_sawSo_58 (by decide) ?_
  refine lv_isub hx hb dX5_sawSo_59 ?_
  refine lv_i2l hx hb dX5_sawSo_60 rfl ?_
  refine rr_callR (va_runS (As := [.long (It (f + (3 * e2) + 1)), .long 0, .long (((nI w) - (nI 1)).toInt64)]) (rest := []) ⟨hx, hb, hml, hown, hts⟩ (c_X5_in l (It (f + (3 * e2) + 1)) 0 (((nI w) - (nI 1)).toInt64) ) (va_cwS 3 hts gX5_sawSo_X5_in rfl rfl rfl (by decide +kernel) ⟨Nat.le_of_ble_eq_true rfl, Nat.le_of_ble_eq_true rfl⟩) rr_preT rfl rfl hl.1 rfl (lv_room (Nat.le_of_ble_eq_true rfl)) dX5_sawSo_61 ⟨Nat.zero_le _, Nat.zero_le _⟩) ?_
  refine rb_if_eq (tgt := 71) hx hb dX5_sawSo_64 (by decide) (fun c64 => ?_) (fun c64 => ?_)
  · skip
    refine lv_iconst (v := (nI 0)) hx hb dX5_sawSo_71 (by decide) ?_
    refine rr_top (y := bi false) rfl ?_
    refine lv_istore (lv' := [(11, .int (bi false)), (9, .long (It (f + (3 * e2) + 1))), (7, .long (It (f + (3 * e2)))), (6, .int (nI e2)), (5, .int (bi (skB kd w It f e2))), (0, .ref m0), (1, .int (nI kd)), (2, .int (nI w)), (3, .int (nI f)), (4, .int (nI t))]) hx hb dX5_sawSo_72 hl (by decide) rfl (fun ls hl => ?_)
    refine lv_iload hx hb dX5_sawSo_74 (lv_at hl 4 rfl) ?_
    refine rb_if_eq (tgt := 117) hx hb dX5_sawSo_76 (by decide) (fun c76 => ?_) (fun c76 => ?_)
    · skip
      refine lv_iconst (v := (nI 0)) hx hb dX5_sawSo_117 (by decide) ?_
      refine rr_top (y := bi (skB kd w It f (e2 + 1))) (by rw [skB]; first | (rw [c76, show okT kd w It (f + 3 * e2) = true from decide_eq_true ⟨hra, hrb, cmp_eq.mp c110⟩]; rfl) | (rw [c76, show okT kd w It (f + 3 * e2) = false from decide_eq_false (fun q => c110 (cmp_eq.mpr q.2.2))]; rfl) | (rw [show okT kd w It (f + 3 * e2) = false from decide_eq_false (fun q => (of_decide_eq_false c64) (by have z0 : (0 : Int64).toInt = 0 := rfl; have zw : (nI w - nI 1).toInt64.toInt = (w : Int) - 1 := (by rw [Int32.toInt_toInt64, pk_sub_toInt (by omega) (by omega)]; rfl); have q2 := q.2.1; omega)), Bool.and_false]; rfl) | (rw [show okT kd w It (f + 3 * e2) = false from decide_eq_false (fun q => (of_decide_eq_false c51) (by have z0 : (0 : Int64).toInt = 0 := rfl; have zw : (nI w - nI 1).toInt64.toInt = (w : Int) - 1 := (by rw [Int32.toInt_toInt64, pk_sub_toInt (by omega) (by omega)]; rfl); have q2 := q.1; omega)), Bool.and_false]; rfl) | (rw [c76]; rfl)) ?_
      refine lv_istore (lv' := [(5, .int (bi (skB kd w It f (e2 + 1)))), (11, .int (bi false)), (9, .long (It (f + (3 * e2) + 1))), (7, .long (It (f + (3 * e2)))), (6, .int (nI e2)), (0, .ref m0), (1, .int (nI kd)), (2, .int (nI w)), (3, .int (nI f)), (4, .int (nI t))]) hx hb dX5_sawSo_118 hl (by decide) rfl (fun ls hl => ?_)
      refine lv_iinc (v := (nI (e2 + 1))) (lv' := [(6, .int (nI (e2 + 1))), (5, .int (bi (skB kd w It f (e2 + 1)))), (11, .int (bi false)), (9, .long (It (f + (3 * e2) + 1))), (7, .long (It (f + (3 * e2)))), (0, .ref m0), (1, .int (nI kd)), (2, .int (nI w)), (3, .int (nI f)), (4, .int (nI t))]) hx hb dX5_sawSo_120 hl (k := 4) rfl (rn_inc e2 1) (by decide) rfl (fun ls hl => ?_)
      refine lv_goto (tgt := 6) hx hb dX5_sawSo_123 (by decide) ?_
      exact ih6 (e2 + 1) ls ⟨by omega, lv_sub hl [0, 1, 5, 6, 7, 8, 9] rfl⟩ (by omega)
    refine lv_iload hx hb dX5_sawSo_79 (lv_at hl 0 rfl) ?_
    refine rb_if_eq (tgt := 117) hx hb dX5_sawSo_81 (by decide) (fun c81 => ?_) (fun c81 => ?_)
    rotate_left
    · exact absurd c81 (by decide)
    refine lv_iconst (v := (nI 0)) hx hb dX5_sawSo_117 (by decide) ?_
    refine rr_top (y := bi (skB kd w It f (e2 + 1))) (by rw [skB]; first | (rw [c76, show okT kd w It (f + 3 * e2) = true from decide_eq_true ⟨hra, hrb, cmp_eq.mp c110⟩]; rfl) | (rw [c76, show okT kd w It (f + 3 * e2) = false from decide_eq_false (fun q => c110 (cmp_eq.mpr q.2.2))]; rfl) | (rw [show okT kd w It (f + 3 * e2) = false from decide_eq_false (fun q => (of_decide_eq_false c64) (by have z0 : (0 : Int64).toInt = 0 := rfl; have zw : (nI w - nI 1).toInt64.toInt = (w : Int) - 1 := (by rw [Int32.toInt_toInt64, pk_sub_toInt (by omega) (by omega)]; rfl); have q2 := q.2.1; omega)), Bool.and_false]; rfl) | (rw [show okT kd w It (f + 3 * e2) = false from decide_eq_false (fun q => (of_decide_eq_false c51) (by have z0 : (0 : Int64).toInt = 0 := rfl; have zw : (nI w - nI 1).toInt64.toInt = (w : Int) - 1 := (by rw [Int32.toInt_toInt64, pk_sub_toInt (by omega) (by omega)]; rfl); have q2 := q.1; omega)), Bool.and_false]; rfl) | (rw [c76]; rfl)) ?_
    refine lv_istore (lv' := [(5, .int (bi (skB kd w It f (e2 + 1)))), (11, .int (bi false)), (9, .long (It (f + (3 * e2) + 1))), (7, .long (It (f + (3 * e2)))), (6, .int (nI e2)), (0, .ref m0), (1, .int (nI kd)), (2, .int (nI w)), (3, .int (nI f)), (4, .int (nI t))]) hx hb dX5_sawSo_118 hl (by decide) rfl (fun ls hl => ?_)
    refine lv_iinc (v := (nI (e2 + 1))) (lv' := [(6, .int (nI (e2 + 1))), (5, .int (bi (skB kd w It f (e2 + 1)))), (11, .int (bi false)), (9, .long (It (f + (3 * e2) + 1))), (7, .long (It (f + (3 * e2)))), (0, .ref m0), (1, .int (nI kd)), (2, .int (nI w)), (3, .int (nI f)), (4, .int (nI t))]) hx hb dX5_sawSo_120 hl (k := 4) rfl (rn_inc e2 1) (by decide) rfl (fun ls hl => ?_)
    refine lv_goto (tgt := 6) hx hb dX5_sawSo_123 (by decide) ?_
    exact ih6 (e2 + 1) ls ⟨by omega, lv_sub hl [0, 1, 5, 6, 7, 8, 9] rfl⟩ (by omega)
  refine lv_iconst (v := (nI 1)) hx hb dX5_sawSo_67 (by decide) ?_
  refine lv_goto (tgt := 72) hx hb dX5_sawSo_68 (by decide) ?_
  refine rr_top (y := bi true) rfl ?_
  refine lv_istore (lv' := [(11, .int (bi true)), (9, .long (It (f + (3 * e2) + 1))), (7, .long (It (f + (3 * e2)))), (6, .int (nI e2)), (5, .int (bi (skB kd w It f e2))), (0, .ref m0), (1, .int (nI kd)), (2, .int (nI w)), (3, .int (nI f)), (4, .int (nI t))]) hx hb dX5_sawSo_72 hl (by decide) rfl (fun ls hl => ?_)
  refine lv_iload hx hb dX5_sawSo_74 (lv_at hl 4 rfl) ?_
  refine rb_if_eq (tgt := 117) hx hb dX5_sawSo_76 (by decide) (fun c76 => ?_) (fun c76 => ?_)
  · skip
    refine lv_iconst (v := (nI 0)) hx hb dX5_sawSo_117 (by decide) ?_
    refine rr_top (y := bi (skB kd w It f (e2 + 1))) (by rw [skB]; first | (rw [c76, show okT kd w It (f + 3 * e2) = true from decide_eq_true ⟨hra, hrb, cmp_eq.mp c110⟩]; rfl) | (rw [c76, show okT kd w It (f + 3 * e2) = false from decide_eq_false (fun q => c110 (cmp_eq.mpr q.2.2))]; rfl) | (rw [show okT kd w It (f + 3 * e2) = false from decide_eq_false (fun q => (of_decide_eq_false c64) (by have z0 : (0 : Int64).toInt = 0 := rfl; have zw : (nI w - nI 1).toInt64.toInt = (w : Int) - 1 := (by rw [Int32.toInt_toInt64, pk_sub_toInt (by omega) (by omega)]; rfl); have q2 := q.2.1; omega)), Bool.and_false]; rfl) | (rw [show okT kd w It (f + 3 * e2) = false from decide_eq_false (fun q => (of_decide_eq_false c51) (by have z0 : (0 : Int64).toInt = 0 := rfl; have zw : (nI w - nI 1).toInt64.toInt = (w : Int) - 1 := (by rw [Int32.toInt_toInt64, pk_sub_toInt (by omega) (by omega)]; rfl); have q2 := q.1; omega)), Bool.and_false]; rfl) | (rw [c76]; rfl)) ?_
    refine lv_istore (lv' := [(5, .int (bi (skB kd w It f (e2 + 1)))), (11, .int (bi true)), (9, .long (It (f + (3 * e2) + 1))), (7, .long (It (f + (3 * e2)))), (6, .int (nI e2)), (0, .ref m0), (1, .int (nI kd)), (2, .int (nI w)), (3, .int (nI f)), (4, .int (nI t))]) hx hb dX5_sawSo_118 hl (by decide) rfl (fun ls hl => ?_)
    refine lv_iinc (v := (nI (e2 + 1))) (lv' := [(6, .int (nI (e2 + 1))), (5, .int (bi (skB kd w It f (e2 + 1)))), (11, .int (bi true)), (9, .long (It (f + (3 * e2) + 1))), (7, .long (It (f + (3 * e2)))), (0, .ref m0), (1, .int (nI kd)), (2, .int (nI w)), (3, .int (nI f)), (4, .int (nI t))]) hx hb dX5_sawSo_120 hl (k := 4) rfl (rn_inc e2 1) (by decide) rfl (fun ls hl => ?_)
    refine lv_goto (tgt := 6) hx hb dX5_sawSo_123 (by decide) ?_
    exact ih6 (e2 + 1) ls ⟨by omega, lv_sub hl [0, 1, 5, 6, 7, 8, 9] rfl⟩ (by omega)
  refine lv_iload hx hb dX5_sawSo_79 (lv_at hl 0 rfl) ?_
  refine rb_if_eq (tgt := 117) hx hb dX5_sawSo_81 (by decide) (fun c81 => ?_) (fun c81 => ?_)
  · exact absurd c81 (by decide)
  have hra : 0 ≤ (It (f + 3 * e2)).toInt ∧ (It (f + 3 * e2)).toInt < (w : Int) := by have q := of_decide_eq_true c51; have z0 : (0 : Int64).toInt = 0 := rfl; have zw : (nI w - nI 1).toInt64.toInt = (w : Int) - 1 := (by rw [Int32.toInt_toInt64, pk_sub_toInt (by omega) (by omega)]; rfl); omega
  have hrb : 0 ≤ (It (f + 3 * e2 + 1)).toInt ∧ (It (f + 3 * e2 + 1)).toInt < (w : Int) := by have q := of_decide_eq_true c64; have z0 : (0 : Int64).toInt = 0 := rfl; have zw : (nI w - nI 1).toInt64.toInt = (w : Int) - 1 := (by rw [Int32.toInt_toInt64, pk_sub_toInt (by omega) (by omega)]; rfl); omega
  refine lv_iload_n hx hb dX5_sawSo_84 rfl (lv_at hl 6 rfl) ?_
  refine lv_iload_n hx hb dX5_sawSo_85 rfl (lv_at hl 7 rfl) ?_
  refine lv_lload hx hb dX5_sawSo_86 (lv_at hl 2 rfl) ?_
  refine lv_l2i hx hb dX5_sawSo_88 rfl ?_
  refine rr_top (y := (nI ((It (f + 3 * e2)).toInt.toNat))) (l2i_small (by omega) (by omega)) ?_
  refine lv_lload hx hb dX5_sawSo_89 (lv_at hl 1 rfl) ?_
  refine lv_l2i hx hb dX5_sawSo_91 rfl ?_
  refine rr_top (y := (nI ((It (f + 3 * e2 + 1)).toInt.toNat))) (l2i_small (by omega) (by omega)) ?_
  refine rr_callR (va_runS (As := [.int (nI kd), .int (nI w), .int (nI ((It (f + 3 * e2)).toInt.toNat)), .int (nI ((It (f + 3 * e2 + 1)).toInt.toNat))]) (rest := []) ⟨hx, hb, hml, hown, hts⟩ (c_X5_addedBy l kd w ((It (f + 3 * e2)).toInt.toNat) ((It (f + 3 * e2 + 1)).toInt.toNat) (by first | assumption | omega) (by first | assumption | omega) (by first | assumption | omega) (by first | assumption | omega) (by first | assumption | omega)) (va_cwS 4 hts gX5_sawSo_X5_addedBy rfl rfl rfl (by decide +kernel) ⟨Nat.le_of_ble_eq_true rfl, Nat.le_of_ble_eq_true rfl⟩) rr_preT rfl rfl hl.1 rfl (lv_room (Nat.le_of_ble_eq_true rfl)) dX5_sawSo_92 ⟨Nat.zero_le _, Nat.zero_le _⟩) ?_
  refine lv_i2l hx hb dX5_sawSo_95 rfl ?_
  refine lv_aload_n hx hb dX5_sawSo_96 rfl (lv_at hl 5 rfl) ?_
  refine va_get (D := (dC, dI)) (ci := 5) (v := .ref mi) (C := RX5) (T := TX5) (N := 15) hx hb hts hiX5 hown hK hP 0 rfl rfl 6 (by decide) (hts (.fieldLink RX5 22 "RestRegistersModel" "items" "[J") (by decide +kernel)) (fun _ h9 => h9) rfl dX5_sawSo_97 ?_
  refine lv_iload_n hx hb dX5_sawSo_100 rfl (lv_at hl 8 rfl) ?_
  refine lv_iconst (v := (nI 3)) hx hb dX5_sawSo_101 (by decide) ?_
  refine lv_iload hx hb dX5_sawSo_102 (lv_at hl 3 rfl) ?_
  refine rn_imul hx hb dX5_sawSo_104 ?_
  refine rn_iadd hx hb dX5_sawSo_105 ?_
  refine lv_iconst (v := (nI 2)) hx hb dX5_sawSo_106 (by decide) ?_
  refine rn_iadd hx hb dX5_sawSo_107 ?_
  refine rn_lald hx hb hK hP 1 1 rfl rfl (i := f + (3 * e2) + 2) (by omega) (by decide) (v := (It (f + (3 * e2) + 2))) rfl dX5_sawSo_108 ?_
  refine W.lcmp hx hb dX5_sawSo_109 ?_
  refine lv_if_ne (tgt := 117) hx hb dX5_sawSo_110 (by decide) (fun c110 => ?_) (fun c110 => ?_)
  · skip
    refine lv_iconst (v := (nI 0)) hx hb dX5_sawSo_117 (by decide) ?_
    refine rr_top (y := bi (skB kd w It f (e2 + 1))) (by rw [skB]; first | (rw [c76, show okT kd w It (f + 3 * e2) = true from decide_eq_true ⟨hra, hrb, cmp_eq.mp c110⟩]; rfl) | (rw [c76, show okT kd w It (f + 3 * e2) = false from decide_eq_false (fun q => c110 (cmp_eq.mpr q.2.2))]; rfl) | (rw [show okT kd w It (f + 3 * e2) = false from decide_eq_false (fun q => (of_decide_eq_false c64) (by have z0 : (0 : Int64).toInt = 0 := rfl; have zw : (nI w - nI 1).toInt64.toInt = (w : Int) - 1 := (by rw [Int32.toInt_toInt64, pk_sub_toInt (by omega) (by omega)]; rfl); have q2 := q.2.1; omega)), Bool.and_false]; rfl) | (rw [show okT kd w It (f + 3 * e2) = false from decide_eq_false (fun q => (of_decide_eq_false c51) (by have z0 : (0 : Int64).toInt = 0 := rfl; have zw : (nI w - nI 1).toInt64.toInt = (w : Int) - 1 := (by rw [Int32.toInt_toInt64, pk_sub_toInt (by omega) (by omega)]; rfl); have q2 := q.1; omega)), Bool.and_false]; rfl) | (rw [c76]; rfl)) ?_
    refine lv_istore (lv' := [(5, .int (bi (skB kd w It f (e2 + 1)))), (11, .int (bi true)), (9, .long (It (f + (3 * e2) + 1))), (7, .long (It (f + (3 * e2)))), (6, .int (nI e2)), (0, .ref m0), (1, .int (nI kd)), (2, .int (nI w)), (3, .int (nI f)), (4, .int (nI t))]) hx hb dX5_sawSo_118 hl (by decide) rfl (fun ls hl => ?_)
    refine lv_iinc (v := (nI (e2 + 1))) (lv' := [(6, .int (nI (e2 + 1))), (5, .int (bi (skB kd w It f (e2 + 1)))), (11, .int (bi true)), (9, .long (It (f + (3 * e2) + 1))), (7, .long (It (f + (3 * e2)))), (0, .ref m0), (1, .int (nI kd)), (2, .int (nI w)), (3, .int (nI f)), (4, .int (nI t))]) hx hb dX5_sawSo_120 hl (k := 4) rfl (rn_inc e2 1) (by decide) rfl (fun ls hl => ?_)
    refine lv_goto (tgt := 6) hx hb dX5_sawSo_123 (by decide) ?_
    exact ih6 (e2 + 1) ls ⟨by omega, lv_sub hl [0, 1, 5, 6, 7, 8, 9] rfl⟩ (by omega)
  refine lv_iconst (v := (nI 1)) hx hb dX5_sawSo_113 (by decide) ?_
  refine lv_goto (tgt := 118) hx hb dX5_sawSo_114 (by decide) ?_
  refine rr_top (y := bi (skB kd w It f (e2 + 1))) (by rw [skB]; first | (rw [c76, show okT kd w It (f + 3 * e2) = true from decide_eq_true ⟨hra, hrb, cmp_eq.mp c110⟩]; rfl) | (rw [c76, show okT kd w It (f + 3 * e2) = false from decide_eq_false (fun q => c110 (cmp_eq.mpr q.2.2))]; rfl) | (rw [show okT kd w It (f + 3 * e2) = false from decide_eq_false (fun q => (of_decide_eq_false c64) (by have z0 : (0 : Int64).toInt = 0 := rfl; have zw : (nI w - nI 1).toInt64.toInt = (w : Int) - 1 := (by rw [Int32.toInt_toInt64, pk_sub_toInt (by omega) (by omega)]; rfl); have q2 := q.2.1; omega)), Bool.and_false]; rfl) | (rw [show okT kd w It (f + 3 * e2) = false from decide_eq_false (fun q => (of_decide_eq_false c51) (by have z0 : (0 : Int64).toInt = 0 := rfl; have zw : (nI w - nI 1).toInt64.toInt = (w : Int) - 1 := (by rw [Int32.toInt_toInt64, pk_sub_toInt (by omega) (by omega)]; rfl); have q2 := q.1; omega)), Bool.and_false]; rfl) | (rw [c76]; rfl)) ?_
  refine lv_istore (lv' := [(5, .int (bi (skB kd w It f (e2 + 1)))), (11, .int (bi true)), (9, .long (It (f + (3 * e2) + 1))), (7, .long (It (f + (3 * e2)))), (6, .int (nI e2)), (0, .ref m0), (1, .int (nI kd)), (2, .int (nI w)), (3, .int (nI f)), (4, .int (nI t))]) hx hb dX5_sawSo_118 hl (by decide) rfl (fun ls hl => ?_)
  refine lv_iinc (v := (nI (e2 + 1))) (lv' := [(6, .int (nI (e2 + 1))), (5, .int (bi (skB kd w It f (e2 + 1)))), (11, .int (bi true)), (9, .long (It (f + (3 * e2) + 1))), (7, .long (It (f + (3 * e2)))), (0, .ref m0), (1, .int (nI kd)), (2, .int (nI w)), (3, .int (nI f)), (4, .int (nI t))]) hx hb dX5_sawSo_120 hl (k := 4) rfl (rn_inc e2 1) (by decide) rfl (fun ls hl => ?_)
  refine lv_goto (tgt := 6) hx hb dX5_sawSo_123 (by decide) ?_
  exact ih6 (e2 + 1) ls ⟨by omega, lv_sub hl [0, 1, 5, 6, 7, 8, 9] rfl⟩ (by omega)
set_option maxHeartbeats 4000000 in
set_option maxRecDepth 100000 in
theorem c_X5_seen_g (l : Launch) (dC : Nat → ClassId) (dI : Nat → Nat → Nat) (cI cJ cS : ClassId) (m0 mw mt ml mz mi mr md mh : Nat) (im : Bool) (tl at0 st0 nu rm rh : Nat) (Bw : Nat → Nat) (Th : Nat → Bool) (Ln Sz : Nat → Nat) (It : Nat → Int64) (k sh a t : Nat) (wl : Int32) (hm : mOk Bw) (hz : ∀ j, j < 4 → Sz j ≤ 24) (hl3 : ∀ j, j < 4 → Ln j ≤ 3) (hs4 : sh < 4) (hk2 : k < Bw 0) (hwl : inb wl 4 = true) (ht1 : 1 ≤ t) (ht8 : t ≤ 8) (href : refI (Th sh) (Ln sh) (Sz sh) wl (nI a) (nI (3 * t)) = nI 0) (has : a + 3 * t ≤ 24) : Met l yX5_seen wsX5_seen ({ frames := 4, cells := 0, slots := 0, locals := 99 }) (va_Pc [.ref m0, .int (nI k), .int (nI sh), .int wl, .int (nI a), .int (nI t)] (rB (dC, dI) vwCl [(m0, .inr (5, [.ref mw, .int (bi im), .ref mt, .int (nI tl), .ref ml, .ref mz, .ref mi, .ref mr, .int (nI at0), .int (nI st0), .int (nI nu), .int (nI rm), .int (nI rh), .ref md, .ref mh])), (mw, .inl (cI, 480, .inl (nA Bw))), (ml, .inl (cI, 4, .inl (laF Th Ln))), (mz, .inl (cI, 4, .inl (nA Sz))), (mi, .inl (cJ, 96, .inr (.inl It)))] (tyz cI cJ cS))) (QcRead (nI (orS (fun kd => skB kd (wdB Bw k) It (24 * sh + a) t) 5))) 0 0 (fun _ => False) := by
  refine Met.ofW (cc := cX5_seen) (maxL := 9) (ret := (some .int)) (by decide) rfl ?_
  intro p e s m args below meth c s₁ B hml hv
  obtain ⟨rfl, hP, hKK⟩ := hv
  have hK := hKK.1
  have hx := B.exec
  have hb := B.bytes
  have hr := B.returns
  have hts := atoms_spec (ws := wsX5_seen) B.pre
  have hown : s.vm.findClass RX5 = some m.cls := findClass_of_methodNamed B.named
  have hlocks := B.notSynchronized
  have hiX5 : ∀ w ∈ wsX50, w ∈ wsX5_seen := by decide +kernel
  have hl := lv_entry ([.ref m0, .int (nI k), .int (nI sh), .int wl, .int (nI a), .int (nI t)]) (n := 9) (Nat.le_of_ble_eq_true rfl)
  rw [lg_entry_eq]
  generalize (lg_sl ([.ref m0, .int (nI k), .int (nI sh), .int wl, .int (nI a), .int (nI t)]) ++ List.replicate (9 - (lg_sl ([.ref m0, .int (nI k), .int (nI sh), .int wl, .int (nI a), .int (nI t)])).length) Slot.unset).toArray = ls at hl ⊢
  have hl : lv_has ls 9 [(0, .ref m0), (1, .int (nI k)), (2, .int (nI sh)), (3, .int wl), (4, .int (nI a)), (5, .int (nI t))] := hl
  have hn6 := hm.n
  have hw9 := hm.wd k hk2
  refine lv_aload_n hx hb dX5_seen_0 rfl (lv_at hl 0 rfl) ?_
  refine lv_iload_n hx hb dX5_seen_1 rfl (lv_at hl 1 rfl) ?_
  refine rr_callR (va_runV (As := [.int (nI k)]) (rest := []) ⟨hx, hb, hml, hown, hts⟩ (c_X5_isWheel l dC dI cI cJ cS m0 mw mt ml mz mi mr md mh im tl at0 st0 nu rm rh Bw (nI k) (by first | assumption | omega)) (cwV 1 hts gX5_seen_X5_isWheel rfl rfl rfl (by decide +kernel) ⟨Nat.le_of_ble_eq_true rfl, Nat.le_of_ble_eq_true rfl⟩) (rr_preV hKK (hP.sub [0, 1] rfl) rfl rfl) rfl rfl hl.1 rfl (lv_room (Nat.le_of_ble_eq_true rfl)) dX5_seen_2 ⟨Nat.zero_le _, Nat.zero_le _⟩) ?_
  refine rr_top (y := bi true) (congrArg bi (inb_lt (by omega) (by omega))) ?_
  refine rb_if_eq (tgt := 35) hx hb dX5_seen_5 (by decide) (fun c5 => ?_) (fun c5 => ?_)
  · exact absurd c5 (by decide)
  refine lv_iload_n hx hb dX5_seen_8 rfl (lv_at hl 2 rfl) ?_
  refine rr_callR (va_runS (As := [.int (nI sh)]) (rest := []) ⟨hx, hb, hml, hown, hts⟩ (c_X5_isRegister l (nI sh) ) (va_cwS 1 hts gX5_seen_X5_isRegister rfl rfl rfl (by decide +kernel) ⟨Nat.le_of_ble_eq_true rfl, Nat.le_of_ble_eq_true rfl⟩) rr_preT rfl rfl hl.1 rfl (lv_room (Nat.le_of_ble_eq_true rfl)) dX5_seen_9 ⟨Nat.zero_le _, Nat.zero_le _⟩) ?_
  refine rr_top (y := bi true) (congrArg bi (inb_lt (by omega) (by omega))) ?_
  refine rb_if_eq (tgt := 35) hx hb dX5_seen_12 (by decide) (fun c12 => ?_) (fun c12 => ?_)
  · exact absurd c12 (by decide)
  refine lv_iload_n hx hb dX5_seen_15 rfl (lv_at hl 3 rfl) ?_
  refine rr_callR (va_runS (As := [.int wl]) (rest := []) ⟨hx, hb, hml, hown, hts⟩ (c_X5_isLane l wl ) (va_cwS 1 hts gX5_seen_X5_isLane rfl rfl rfl (by decide +kernel) ⟨Nat.le_of_ble_eq_true rfl, Nat.le_of_ble_eq_true rfl⟩) rr_preT rfl rfl hl.1 rfl (lv_room (Nat.le_of_ble_eq_true rfl)) dX5_seen_16 ⟨Nat.zero_le _, Nat.zero_le _⟩) ?_
  refine rr_top (y := (bi true)) (congrArg bi hwl) ?_
  refine rb_if_eq (tgt := 35) hx hb dX5_seen_19 (by decide) (fun c19 => ?_) (fun c19 => ?_)
  · exact absurd c19 (by decide)
  refine lv_iload hx hb dX5_seen_22 (lv_at hl 5 rfl) ?_
  refine lv_i2l hx hb dX5_seen_24 rfl ?_
  refine lv_lconst (v := 1) hx hb dX5_seen_25 (by decide) ?_
  refine lv_ldc2 (v := 8) hx hb hown (hts (.constantLong RX5 191 (8)) (by decide +kernel)) dX5_seen_26 ?_
  refine rr_callR (va_runS (As := [.long ((nI t).toInt64), .long 1, .long 8]) (rest := []) ⟨hx, hb, hml, hown, hts⟩ (c_X5_in l ((nI t).toInt64) 1 8 ) (va_cwS 3 hts gX5_seen_X5_in rfl rfl rfl (by decide +kernel) ⟨Nat.le_of_ble_eq_true rfl, Nat.le_of_ble_eq_true rfl⟩) rr_preT rfl rfl hl.1 rfl (lv_room (Nat.le_of_ble_eq_true rfl)) dX5_seen_29 ⟨Nat.zero_le _, Nat.zero_le _⟩) ?_
  refine rr_top (y := (bi true)) (congrArg bi (inL_nI (by omega) (by have z1 : (1 : Int64).toInt = 1 := rfl; have z2 : (8 : Int64).toInt = 8 := rfl; omega))) ?_
  refine rb_if_ne (tgt := 37) hx hb dX5_seen_32 (by decide) (fun c32 => ?_) (fun c32 => ?_)
  rotate_left
  · exact absurd c32 (by decide)
  refine lv_aload_n hx hb dX5_seen_37 rfl (lv_at hl 0 rfl) ?_
  refine lv_iload_n hx hb dX5_seen_38 rfl (lv_at hl 2 rfl) ?_
  refine lv_iload_n hx hb dX5_seen_39 rfl (lv_at hl 3 rfl) ?_
  refine lv_iload hx hb dX5_seen_40 (lv_at hl 4 rfl) ?_
  refine lv_iconst (v := (nI 3)) hx hb dX5_seen_42 (by decide) ?_
  refine lv_iload hx hb dX5_seen_43 (lv_at hl 5 rfl) ?_
  refine rn_imul hx hb dX5_seen_45 ?_
  refine rr_callR (va_runV (As := [.int (nI sh), .int wl, .int (nI a), .int (nI (3 * t))]) (rest := []) ⟨hx, hb, hml, hown, hts⟩ (c_X5_against l dC dI cI cJ cS m0 mw mt ml mz mi mr md mh im tl at0 st0 nu rm rh Th Ln Sz sh wl (nI a) (nI (3 * t)) (by first | assumption | omega) (by first | assumption | omega) (by first | assumption | omega)) (cwV 4 hts gX5_seen_X5_against rfl rfl rfl (by decide +kernel) ⟨Nat.le_of_ble_eq_true rfl, Nat.le_of_ble_eq_true rfl⟩) (rr_preV hKK (hP.sub [0, 2, 3] rfl) rfl rfl) rfl rfl hl.1 rfl (lv_room (Nat.le_of_ble_eq_true rfl)) dX5_seen_46 ⟨Nat.zero_le _, Nat.zero_le _⟩) ?_
  refine rr_top (y := nI 0) href ?_
  refine lv_istore (lv' := [(6, .int (nI 0)), (0, .ref m0), (1, .int (nI k)), (2, .int (nI sh)), (3, .int wl), (4, .int (nI a)), (5, .int (nI t))]) hx hb dX5_seen_49 hl (by decide) rfl (fun ls hl => ?_)
  refine lv_iload hx hb dX5_seen_51 (lv_at hl 0 rfl) ?_
  refine rn_if_ge (tgt := 59) hx hb dX5_seen_53 (by decide) (by omega) ?_
  refine lv_iconst (v := (nI 0)) hx hb dX5_seen_59 (by decide) ?_
  refine lv_istore (lv' := [(7, .int (nI 0)), (6, .int (nI 0)), (0, .ref m0), (1, .int (nI k)), (2, .int (nI sh)), (3, .int wl), (4, .int (nI a)), (5, .int (nI t))]) hx hb dX5_seen_60 hl (by decide) rfl (fun ls hl => ?_)
  refine lv_iconst (v := (nI 0)) hx hb dX5_seen_62 (by decide) ?_
  refine lv_istore (lv' := [(8, .int (nI 0)), (7, .int (nI 0)), (6, .int (nI 0)), (0, .ref m0), (1, .int (nI k)), (2, .int (nI sh)), (3, .int wl), (4, .int (nI a)), (5, .int (nI t))]) hx hb dX5_seen_63 hl (by decide) rfl (fun ls hl => ?_)
  refine rl1 (A1 := Nat) (fun ls => W p l e _ s m _ below meth c s.heap [] 0 0 _ (F0 m 65 ls [])) (fun kd ls => kd ≤ 5 ∧ lv_has ls 9 [(8, .int (nI kd)), (7, .int (nI (orS (fun kd => skB kd (wdB Bw k) It (24 * sh + a) t) kd))), (6, .int (nI 0)), (0, .ref m0), (1, .int (nI k)), (2, .int (nI sh)), (3, .int wl), (4, .int (nI a)), (5, .int (nI t))]) (fun kd => 5 - kd) ?_ 0 ls ⟨by omega, lv_sub hl [0, 1, 2, 3, 4, 5, 6, 7, 8] rfl⟩
  rintro kd ls ⟨hi, hl⟩ ih65
  refine lv_iload hx hb dX5_seen_65 (lv_at hl 0 rfl) ?_
  refine lv_iconst (v := (nI 4)) hx hb dX5_seen_67 (by decide) ?_
  refine rn_icmp_gt (tgt := 117) hx hb dX5_seen_68 (by decide) (by omega) (by omega) (fun c68 => ?_) (fun c68 => ?_)
  · skip
    refine lv_iload hx hb dX5_seen_117 (lv_at hl 1 rfl) ?_
    exact rr_iret hx hb hr hlocks dX5_seen_119 (by rw [show kd = 5 by omega])
  refine lv_iload hx hb dX5_seen_71 (lv_at hl 1 rfl) ?_
  refine lv_aload_n hx hb dX5_seen_73 rfl (lv_at hl 3 rfl) ?_
  refine lv_iload hx hb dX5_seen_74 (lv_at hl 0 rfl) ?_
  refine lv_aload_n hx hb dX5_seen_76 rfl (lv_at hl 3 rfl) ?_
  refine va_get (D := (dC, dI)) (ci := 5) (v := .ref mw) (C := RX5) (T := TX5) (N := 15) hx hb hts hiX5 hown hK hP 0 rfl rfl 0 (by decide) (hts (.fieldLink RX5 7 "RestRegistersModel" "w" "[I") (by decide +kernel)) (fun _ h9 => h9) rfl dX5_seen_77 ?_
  refine lv_bipush (v := (nI 8)) hx hb dX5_seen_80 (by decide) ?_
  refine lv_iload_n hx hb dX5_seen_82 rfl (lv_at hl 4 rfl) ?_
  refine rn_iadd hx hb dX5_seen_83 ?_
  refine rn_iald hx hb hK hP 1 0 rfl rfl (i := 8 + k) (by omega) (by decide) (v := (nI (wdB Bw k))) rfl dX5_seen_84 ?_
  have hv84 := hm.wd k (by omega)
  refine lv_bipush (v := (nI 24)) hx hb dX5_seen_85 (by decide) ?_
  refine lv_iload_n hx hb dX5_seen_87 rfl (lv_at hl 5 rfl) ?_
  refine rn_imul hx hb dX5_seen_88 ?_
  refine lv_iload hx hb dX5_seen_89 (lv_at hl 7 rfl) ?_
  refine rn_iadd hx hb dX5_seen_91 ?_
  refine lv_iload hx hb dX5_seen_92 (lv_at hl 8 rfl) ?_
  refine rr_callR (va_runV (As := [.int (nI kd), .int (nI (wdB Bw k)), .int (nI (24 * sh + a)), .int (nI t)]) (rest := [.int (nI (orS (fun kd => skB kd (wdB Bw k) It (24 * sh + a) t) kd))]) ⟨hx, hb, hml, hown, hts⟩ (c_X5_sawSo l dC dI cI cJ cS m0 mw mt ml mz mi mr md mh im tl at0 st0 nu rm rh It kd (wdB Bw k) (24 * sh + a) t (by first | assumption | omega) (by first | assumption | omega) (by first | assumption | omega) (by first | assumption | omega)) (cwV 4 hts gX5_seen_X5_sawSo rfl rfl rfl (by decide +kernel) ⟨Nat.le_of_ble_eq_true rfl, Nat.le_of_ble_eq_true rfl⟩) (rr_preV hKK (hP.sub [0, 4] rfl) rfl rfl) rfl rfl hl.1 rfl (lv_room (Nat.le_of_ble_eq_true rfl)) dX5_seen_94 ⟨Nat.zero_le _, Nat.zero_le _⟩) ?_
  refine rb_if_eq (tgt := 107) hx hb dX5_seen_97 (by decide) (fun c97 => ?_) (fun c97 => ?_)
  · skip
    refine lv_iconst (v := (nI 0)) hx hb dX5_seen_107 (by decide) ?_
    refine lv_ior hx hb dX5_seen_108 ?_
    refine rr_top (y := (nI (orS (fun kd => skB kd (wdB Bw k) It (24 * sh + a) t) (kd + 1)))) (by rw [or_eq, orS, c97]; rfl) ?_
    refine lv_istore (lv' := [(7, .int (nI (orS (fun kd => skB kd (wdB Bw k) It (24 * sh + a) t) (kd + 1)))), (8, .int (nI kd)), (6, .int (nI 0)), (0, .ref m0), (1, .int (nI k)), (2, .int (nI sh)), (3, .int wl), (4, .int (nI a)), (5, .int (nI t))]) hx hb dX5_seen_109 hl (by decide) rfl (fun ls hl => ?_)
    refine lv_iinc (v := (nI (kd + 1))) (lv' := [(8, .int (nI (kd + 1))), (7, .int (nI (orS (fun kd => skB kd (wdB Bw k) It (24 * sh + a) t) (kd + 1)))), (6, .int (nI 0)), (0, .ref m0), (1, .int (nI k)), (2, .int (nI sh)), (3, .int wl), (4, .int (nI a)), (5, .int (nI t))]) hx hb dX5_seen_111 hl (k := 1) rfl (rn_inc kd 1) (by decide) rfl (fun ls hl => ?_)
    refine lv_goto (tgt := 65) hx hb dX5_seen_114 (by decide) ?_
    exact ih65 (kd + 1) ls ⟨by omega, lv_sub hl [0, 1, 2, 3, 4, 5, 6, 7, 8] rfl⟩ (by omega)
  refine lv_iconst (v := (nI 1)) hx hb dX5_seen_100 (by decide) ?_
  refine lv_iload hx hb dX5_seen_101 (lv_at hl 0 rfl) ?_
  refine lv_ishl hx hb dX5_seen_103 ?_
  refine lv_goto (tgt := 108) hx hb dX5_seen_104 (by decide) ?_
  refine rr_top (y := nI (2 ^ kd)) (shl_eq (by omega)) ?_
  refine lv_ior hx hb dX5_seen_108 ?_
  refine rr_top (y := (nI (orS (fun kd => skB kd (wdB Bw k) It (24 * sh + a) t) (kd + 1)))) (by rw [or_eq, orS, c97]; rfl) ?_
  refine lv_istore (lv' := [(7, .int (nI (orS (fun kd => skB kd (wdB Bw k) It (24 * sh + a) t) (kd + 1)))), (8, .int (nI kd)), (6, .int (nI 0)), (0, .ref m0), (1, .int (nI k)), (2, .int (nI sh)), (3, .int wl), (4, .int (nI a)), (5, .int (nI t))]) hx hb dX5_seen_109 hl (by decide) rfl (fun ls hl => ?_)
  refine lv_iinc (v := (nI (kd + 1))) (lv' := [(8, .int (nI (kd + 1))), (7, .int (nI (orS (fun kd => skB kd (wdB Bw k) It (24 * sh + a) t) (kd + 1)))), (6, .int (nI 0)), (0, .ref m0), (1, .int (nI k)), (2, .int (nI sh)), (3, .int wl), (4, .int (nI a)), (5, .int (nI t))]) hx hb dX5_seen_111 hl (k := 1) rfl (rn_inc kd 1) (by decide) rfl (fun ls hl => ?_)
  refine lv_goto (tgt := 65) hx hb dX5_seen_114 (by decide) ?_
  exact ih65 (kd + 1) ls ⟨by omega, lv_sub hl [0, 1, 2, 3, 4, 5, 6, 7, 8] rfl⟩ (by omega)
set_option maxHeartbeats 4000000 in
set_option maxRecDepth 100000 in
theorem c_X5_seen_r (l : Launch) (dC : Nat → ClassId) (dI : Nat → Nat → Nat) (cI cJ cS : ClassId) (m0 mw mt ml mz mi mr md mh : Nat) (im : Bool) (tl at0 st0 nu rm rh : Nat) (Bw : Nat → Nat) (Th : Nat → Bool) (Ln Sz : Nat → Nat) (It : Nat → Int64) (k sh t : Nat) (wl i : Int32) (hm : mOk Bw) (hz : ∀ j, j < 4 → Sz j ≤ 24) (hl3 : ∀ j, j < 4 → Ln j ≤ 3) (hs4 : sh < 4) (hk2 : k < Bw 0) (hwl : inb wl 4 = true) (ht1 : 1 ≤ t) (ht8 : t ≤ 8) (href : ¬ refI (Th sh) (Ln sh) (Sz sh) wl i (nI (3 * t)) = nI 0) : Met l yX5_seen wsX5_seen ({ frames := 4, cells := 0, slots := 0, locals := 99 }) (va_Pc [.ref m0, .int (nI k), .int (nI sh), .int wl, .int i, .int (nI t)] (rB (dC, dI) vwCl [(m0, .inr (5, [.ref mw, .int (bi im), .ref mt, .int (nI tl), .ref ml, .ref mz, .ref mi, .ref mr, .int (nI at0), .int (nI st0), .int (nI nu), .int (nI rm), .int (nI rh), .ref md, .ref mh])), (mw, .inl (cI, 480, .inl (nA Bw))), (ml, .inl (cI, 4, .inl (laF Th Ln))), (mz, .inl (cI, 4, .inl (nA Sz))), (mi, .inl (cJ, 96, .inr (.inl It)))] (tyz cI cJ cS))) (QcRead (refI (Th sh) (Ln sh) (Sz sh) wl i (nI (3 * t)))) 0 0 (fun _ => False) := by
  refine Met.ofW (cc := cX5_seen) (maxL := 9) (ret := (some .int)) (by decide) rfl ?_
  intro p e s m args below meth c s₁ B hml hv
  obtain ⟨rfl, hP, hKK⟩ := hv
  have hK := hKK.1
  have hx := B.exec
  have hb := B.bytes
  have hr := B.returns
  have hts := atoms_spec (ws := wsX5_seen) B.pre
  have hown : s.vm.findClass RX5 = some m.cls := findClass_of_methodNamed B.named
  have hlocks := B.notSynchronized
  have hiX5 : ∀ w ∈ wsX50, w ∈ wsX5_seen := by decide +kernel
  have hl := lv_entry ([.ref m0, .int (nI k), .int (nI sh), .int wl, .int i, .int (nI t)]) (n := 9) (Nat.le_of_ble_eq_true rfl)
  rw [lg_entry_eq]
  generalize (lg_sl ([.ref m0, .int (nI k), .int (nI sh), .int wl, .int i, .int (nI t)]) ++ List.replicate (9 - (lg_sl ([.ref m0, .int (nI k), .int (nI sh), .int wl, .int i, .int (nI t)])).length) Slot.unset).toArray = ls at hl ⊢
  have hl : lv_has ls 9 [(0, .ref m0), (1, .int (nI k)), (2, .int (nI sh)), (3, .int wl), (4, .int i), (5, .int (nI t))] := hl
  have hn6 := hm.n
  refine lv_aload_n hx hb dX5_seen_0 rfl (lv_at hl 0 rfl) ?_
  refine lv_iload_n hx hb dX5_seen_1 rfl (lv_at hl 1 rfl) ?_
  refine rr_callR (va_runV (As := [.int (nI k)]) (rest := []) ⟨hx, hb, hml, hown, hts⟩ (c_X5_isWheel l dC dI cI cJ cS m0 mw mt ml mz mi mr md mh im tl at0 st0 nu rm rh Bw (nI k) (by first | assumption | omega)) (cwV 1 hts gX5_seen_X5_isWheel rfl rfl rfl (by decide +kernel) ⟨Nat.le_of_ble_eq_true rfl, Nat.le_of_ble_eq_true rfl⟩) (rr_preV hKK (hP.sub [0, 1] rfl) rfl rfl) rfl rfl hl.1 rfl (lv_room (Nat.le_of_ble_eq_true rfl)) dX5_seen_2 ⟨Nat.zero_le _, Nat.zero_le _⟩) ?_
  refine rr_top (y := bi true) (congrArg bi (inb_lt (by omega) (by omega))) ?_
  refine rb_if_eq (tgt := 35) hx hb dX5_seen_5 (by decide) (fun c5 => ?_) (fun c5 => ?_)
  · exact absurd c5 (by decide)
  refine lv_iload_n hx hb dX5_seen_8 rfl (lv_at hl 2 rfl) ?_
  refine rr_callR (va_runS (As := [.int (nI sh)]) (rest := []) ⟨hx, hb, hml, hown, hts⟩ (c_X5_isRegister l (nI sh) ) (va_cwS 1 hts gX5_seen_X5_isRegister rfl rfl rfl (by decide +kernel) ⟨Nat.le_of_ble_eq_true rfl, Nat.le_of_ble_eq_true rfl⟩) rr_preT rfl rfl hl.1 rfl (lv_room (Nat.le_of_ble_eq_true rfl)) dX5_seen_9 ⟨Nat.zero_le _, Nat.zero_le _⟩) ?_
  refine rr_top (y := bi true) (congrArg bi (inb_lt (by omega) (by omega))) ?_
  refine rb_if_eq (tgt := 35) hx hb dX5_seen_12 (by decide) (fun c12 => ?_) (fun c12 => ?_)
  · exact absurd c12 (by decide)
  refine lv_iload_n hx hb dX5_seen_15 rfl (lv_at hl 3 rfl) ?_
  refine rr_callR (va_runS (As := [.int wl]) (rest := []) ⟨hx, hb, hml, hown, hts⟩ (c_X5_isLane l wl ) (va_cwS 1 hts gX5_seen_X5_isLane rfl rfl rfl (by decide +kernel) ⟨Nat.le_of_ble_eq_true rfl, Nat.le_of_ble_eq_true rfl⟩) rr_preT rfl rfl hl.1 rfl (lv_room (Nat.le_of_ble_eq_true rfl)) dX5_seen_16 ⟨Nat.zero_le _, Nat.zero_le _⟩) ?_
  refine rr_top (y := (bi true)) (congrArg bi hwl) ?_
  refine rb_if_eq (tgt := 35) hx hb dX5_seen_19 (by decide) (fun c19 => ?_) (fun c19 => ?_)
  · exact absurd c19 (by decide)
  refine lv_iload hx hb dX5_seen_22 (lv_at hl 5 rfl) ?_
  refine lv_i2l hx hb dX5_seen_24 rfl ?_
  refine lv_lconst (v := 1) hx hb dX5_seen_25 (by decide) ?_
  refine lv_ldc2 (v := 8) hx hb hown (hts (.constantLong RX5 191 (8)) (by decide +kernel)) dX5_seen_26 ?_
  refine rr_callR (va_runS (As := [.long ((nI t).toInt64), .long 1, .long 8]) (rest := []) ⟨hx, hb, hml, hown, hts⟩ (c_X5_in l ((nI t).toInt64) 1 8 ) (va_cwS 3 hts gX5_seen_X5_in rfl rfl rfl (by decide +kernel) ⟨Nat.le_of_ble_eq_true rfl, Nat.le_of_ble_eq_true rfl⟩) rr_preT rfl rfl hl.1 rfl (lv_room (Nat.le_of_ble_eq_true rfl)) dX5_seen_29 ⟨Nat.zero_le _, Nat.zero_le _⟩) ?_
  refine rr_top (y := (bi true)) (congrArg bi (inL_nI (by omega) (by have z1 : (1 : Int64).toInt = 1 := rfl; have z2 : (8 : Int64).toInt = 8 := rfl; omega))) ?_
  refine rb_if_ne (tgt := 37) hx hb dX5_seen_32 (by decide) (fun c32 => ?_) (fun c32 => ?_)
  rotate_left
  · exact absurd c32 (by decide)
  refine lv_aload_n hx hb dX5_seen_37 rfl (lv_at hl 0 rfl) ?_
  refine lv_iload_n hx hb dX5_seen_38 rfl (lv_at hl 2 rfl) ?_
  refine lv_iload_n hx hb dX5_seen_39 rfl (lv_at hl 3 rfl) ?_
  refine lv_iload hx hb dX5_seen_40 (lv_at hl 4 rfl) ?_
  refine lv_iconst (v := (nI 3)) hx hb dX5_seen_42 (by decide) ?_
  refine lv_iload hx hb dX5_seen_43 (lv_at hl 5 rfl) ?_
  refine rn_imul hx hb dX5_seen_45 ?_
  refine rr_callR (va_runV (As := [.int (nI sh), .int wl, .int i, .int (nI (3 * t))]) (rest := []) ⟨hx, hb, hml, hown, hts⟩ (c_X5_against l dC dI cI cJ cS m0 mw mt ml mz mi mr md mh im tl at0 st0 nu rm rh Th Ln Sz sh wl i (nI (3 * t)) (by first | assumption | omega) (by first | assumption | omega) (by first | assumption | omega)) (cwV 4 hts gX5_seen_X5_against rfl rfl rfl (by decide +kernel) ⟨Nat.le_of_ble_eq_true rfl, Nat.le_of_ble_eq_true rfl⟩) (rr_preV hKK (hP.sub [0, 2, 3] rfl) rfl rfl) rfl rfl hl.1 rfl (lv_room (Nat.le_of_ble_eq_true rfl)) dX5_seen_46 ⟨Nat.zero_le _, Nat.zero_le _⟩) ?_
  refine lv_istore (lv' := [(6, .int (refI (Th sh) (Ln sh) (Sz sh) wl i (nI (3 * t)))), (0, .ref m0), (1, .int (nI k)), (2, .int (nI sh)), (3, .int wl), (4, .int i), (5, .int (nI t))]) hx hb dX5_seen_49 hl (by decide) rfl (fun ls hl => ?_)
  refine lv_iload hx hb dX5_seen_51 (lv_at hl 0 rfl) ?_
  refine lv_if_ge (tgt := 59) hx hb dX5_seen_53 (by decide) (fun c53 => ?_) (fun c53 => ?_)
  · skip
    exact absurd c53 (refI_neg href)
  refine lv_iload hx hb dX5_seen_56 (lv_at hl 0 rfl) ?_
  exact rr_iret hx hb hr hlocks dX5_seen_58 (rfl)
set_option maxHeartbeats 4000000 in
set_option maxRecDepth 100000 in
theorem c_X5_seen_b (l : Launch) (dC : Nat → ClassId) (dI : Nat → Nat → Nat) (cI cJ cS : ClassId) (m0 mw mt ml mz mi mr md mh : Nat) (im : Bool) (tl at0 st0 nu rm rh : Nat) (Bw : Nat → Nat) (x y z i u : Int32) (hm : mOk Bw) (hbad : (inb x (Bw 0) && inb y 4 && inb z 4 && inL u.toInt64 1 8) = false) : Met l yX5_seen wsX5_seen ({ frames := 4, cells := 0, slots := 0, locals := 99 }) (va_Pc [.ref m0, .int x, .int y, .int z, .int i, .int u] (rB (dC, dI) vwCl [(m0, .inr (5, [.ref mw, .int (bi im), .ref mt, .int (nI tl), .ref ml, .ref mz, .ref mi, .ref mr, .int (nI at0), .int (nI st0), .int (nI nu), .int (nI rm), .int (nI rh), .ref md, .ref mh])), (mw, .inl (cI, 480, .inl (nA Bw)))] (tyz cI cJ cS))) (QcRead (-1)) 0 0 (fun _ => False) := by
  refine Met.ofW (cc := cX5_seen) (maxL := 9) (ret := (some .int)) (by decide) rfl ?_
  intro p e s m args below meth c s₁ B hml hv
  obtain ⟨rfl, hP, hKK⟩ := hv
  have hK := hKK.1
  have hx := B.exec
  have hb := B.bytes
  have hr := B.returns
  have hts := atoms_spec (ws := wsX5_seen) B.pre
  have hown : s.vm.findClass RX5 = some m.cls := findClass_of_methodNamed B.named
  have hlocks := B.notSynchronized
  have hiX5 : ∀ w ∈ wsX50, w ∈ wsX5_seen := by decide +kernel
  have hl := lv_entry ([.ref m0, .int x, .int y, .int z, .int i, .int u]) (n := 9) (Nat.le_of_ble_eq_true rfl)
  rw [lg_entry_eq]
  generalize (lg_sl ([.ref m0, .int x, .int y, .int z, .int i, .int u]) ++ List.replicate (9 - (lg_sl ([.ref m0, .int x, .int y, .int z, .int i, .int u])).length) Slot.unset).toArray = ls at hl ⊢
  have hl : lv_has ls 9 [(0, .ref m0), (1, .int x), (2, .int y), (3, .int z), (4, .int i), (5, .int u)] := hl
  have hn6 := hm.n
  refine lv_aload_n hx hb dX5_seen_0 rfl (lv_at hl 0 rfl) ?_
  refine lv_iload_n hx hb dX5_seen_1 rfl (lv_at hl 1 rfl) ?_
  refine rr_callR (va_runV (As := [.int x]) (rest := []) ⟨hx, hb, hml, hown, hts⟩ (c_X5_isWheel l dC dI cI cJ cS m0 mw mt ml mz mi mr md mh im tl at0 st0 nu rm rh Bw x (by first | assumption | omega)) (cwV 1 hts gX5_seen_X5_isWheel rfl rfl rfl (by decide +kernel) ⟨Nat.le_of_ble_eq_true rfl, Nat.le_of_ble_eq_true rfl⟩) (rr_preV hKK hP rfl rfl) rfl rfl hl.1 rfl (lv_room (Nat.le_of_ble_eq_true rfl)) dX5_seen_2 ⟨Nat.zero_le _, Nat.zero_le _⟩) ?_
  refine rb_if_eq (tgt := 35) hx hb dX5_seen_5 (by decide) (fun c5 => ?_) (fun c5 => ?_)
  · skip
    refine lv_iconst (v := (-1)) hx hb dX5_seen_35 (by decide) ?_
    exact rr_iret hx hb hr hlocks dX5_seen_36 (rfl)
  refine lv_iload_n hx hb dX5_seen_8 rfl (lv_at hl 2 rfl) ?_
  refine rr_callR (va_runS (As := [.int y]) (rest := []) ⟨hx, hb, hml, hown, hts⟩ (c_X5_isRegister l y ) (va_cwS 1 hts gX5_seen_X5_isRegister rfl rfl rfl (by decide +kernel) ⟨Nat.le_of_ble_eq_true rfl, Nat.le_of_ble_eq_true rfl⟩) rr_preT rfl rfl hl.1 rfl (lv_room (Nat.le_of_ble_eq_true rfl)) dX5_seen_9 ⟨Nat.zero_le _, Nat.zero_le _⟩) ?_
  refine rb_if_eq (tgt := 35) hx hb dX5_seen_12 (by decide) (fun c12 => ?_) (fun c12 => ?_)
  · skip
    refine lv_iconst (v := (-1)) hx hb dX5_seen_35 (by decide) ?_
    exact rr_iret hx hb hr hlocks dX5_seen_36 (rfl)
  refine lv_iload_n hx hb dX5_seen_15 rfl (lv_at hl 3 rfl) ?_
  refine rr_callR (va_runS (As := [.int z]) (rest := []) ⟨hx, hb, hml, hown, hts⟩ (c_X5_isLane l z ) (va_cwS 1 hts gX5_seen_X5_isLane rfl rfl rfl (by decide +kernel) ⟨Nat.le_of_ble_eq_true rfl, Nat.le_of_ble_eq_true rfl⟩) rr_preT rfl rfl hl.1 rfl (lv_room (Nat.le_of_ble_eq_true rfl)) dX5_seen_16 ⟨Nat.zero_le _, Nat.zero_le _⟩) ?_
  refine rb_if_eq (tgt := 35) hx hb dX5_seen_19 (by decide) (fun c19 => ?_) (fun c19 => ?_)
  · skip
    refine lv_iconst (v := (-1)) hx hb dX5_seen_35 (by decide) ?_
    exact rr_iret hx hb hr hlocks dX5_seen_36 (rfl)
  refine lv_iload hx hb dX5_seen_22 (lv_at hl 5 rfl) ?_
  refine lv_i2l hx hb dX5_seen_24 rfl ?_
  refine lv_lconst (v := 1) hx hb dX5_seen_25 (by decide) ?_
  refine lv_ldc2 (v := 8) hx hb hown (hts (.constantLong RX5 191 (8)) (by decide +kernel)) dX5_seen_26 ?_
  refine rr_callR (va_runS (As := [.long u.toInt64, .long 1, .long 8]) (rest := []) ⟨hx, hb, hml, hown, hts⟩ (c_X5_in l u.toInt64 1 8 ) (va_cwS 3 hts gX5_seen_X5_in rfl rfl rfl (by decide +kernel) ⟨Nat.le_of_ble_eq_true rfl, Nat.le_of_ble_eq_true rfl⟩) rr_preT rfl rfl hl.1 rfl (lv_room (Nat.le_of_ble_eq_true rfl)) dX5_seen_29 ⟨Nat.zero_le _, Nat.zero_le _⟩) ?_
  refine rb_if_ne (tgt := 37) hx hb dX5_seen_32 (by decide) (fun c32 => ?_) (fun c32 => ?_)
  · skip
    exact absurd hbad (by rw [c5, c12, c19, c32]; decide)
  refine lv_iconst (v := (-1)) hx hb dX5_seen_35 (by decide) ?_
  exact rr_iret hx hb hr hlocks dX5_seen_36 (rfl)
set_option maxHeartbeats 4000000 in
set_option maxRecDepth 100000 in
theorem c_X5_rubbed_0 (l : Launch) (dC : Nat → ClassId) (dI : Nat → Nat → Nat) (cI cJ cS : ClassId) (m0 mw mt ml mz mi mr md mh : Nat) (im : Bool) (tl at0 st0 nu rm rh : Nat) (Bw : Nat → Nat) (Th : Nat → Bool) (Ln Sz : Nat → Nat) (It : Nat → Int64) (sh a : Nat) (wl : Int32) (hm : mOk Bw) (hz : ∀ j, j < 4 → Sz j ≤ 24) (hl3 : ∀ j, j < 4 → Ln j ≤ 3) (hs4 : sh < 4) (hwl : inb wl 4 = true) (href : refI (Th sh) (Ln sh) (Sz sh) wl (nI a) (nI (Bw 0)) = nI 0) (has : a + Bw 0 ≤ 24) : Met l yX5_rubbed wsX5_rubbed ({ frames := 2, cells := 0, slots := 0, locals := 45 }) (va_Pc [.ref m0, .int (nI sh), .int wl, .int (nI a), .int (nI 0)] (rB (dC, dI) vwCl [(m0, .inr (5, [.ref mw, .int (bi im), .ref mt, .int (nI tl), .ref ml, .ref mz, .ref mi, .ref mr, .int (nI at0), .int (nI st0), .int (nI nu), .int (nI rm), .int (nI rh), .ref md, .ref mh])), (mw, .inl (cI, 480, .inl (nA Bw))), (ml, .inl (cI, 4, .inl (laF Th Ln))), (mz, .inl (cI, 4, .inl (nA Sz))), (mi, .inl (cJ, 96, .inr (.inl It)))] (tyz cI cJ cS))) (QcRead (nI (rbC (Bw 0) (wdB Bw) (rwI It sh) a (rgB Bw)))) 0 0 (fun _ => False) := by
  refine Met.ofW (cc := cX5_rubbed) (maxL := 14) (ret := (some .int)) (by decide) rfl ?_
  intro p e s m args below meth c s₁ B hml hv
  obtain ⟨rfl, hP, hKK⟩ := hv
  have hK := hKK.1
  have hx := B.exec
  have hb := B.bytes
  have hr := B.returns
  have hts := atoms_spec (ws := wsX5_rubbed) B.pre
  have hown : s.vm.findClass RX5 = some m.cls := findClass_of_methodNamed B.named
  have hlocks := B.notSynchronized
  have hiX5 : ∀ w ∈ wsX50, w ∈ wsX5_rubbed := by decide +kernel
  have hl := lv_entry ([.ref m0, .int (nI sh), .int wl, .int (nI a), .int (nI 0)]) (n := 14) (Nat.le_of_ble_eq_true rfl)
  rw [lg_entry_eq]
  generalize (lg_sl ([.ref m0, .int (nI sh), .int wl, .int (nI a), .int (nI 0)]) ++ List.replicate (14 - (lg_sl ([.ref m0, .int (nI sh), .int wl, .int (nI a), .int (nI 0)])).length) Slot.unset).toArray = ls at hl ⊢
  have hl : lv_has ls 14 [(0, .ref m0), (1, .int (nI sh)), (2, .int wl), (3, .int (nI a)), (4, .int (nI 0))] := hl
  have hn6 := hm.n
  have hrg := rgB_b hm
  refine lv_iload_n hx hb dX5_rubbed_0 rfl (lv_at hl 1 rfl) ?_
  refine rr_callR (va_runS (As := [.int (nI sh)]) (rest := []) ⟨hx, hb, hml, hown, hts⟩ (c_X5_isRegister l (nI sh) ) (va_cwS 1 hts gX5_rubbed_X5_isRegister rfl rfl rfl (by decide +kernel) ⟨Nat.le_of_ble_eq_true rfl, Nat.le_of_ble_eq_true rfl⟩) rr_preT rfl rfl hl.1 rfl (lv_room (Nat.le_of_ble_eq_true rfl)) dX5_rubbed_1 ⟨Nat.zero_le _, Nat.zero_le _⟩) ?_
  refine rr_top (y := bi true) (congrArg bi (inb_lt (by omega) (by omega))) ?_
  refine rb_if_eq (tgt := 25) hx hb dX5_rubbed_4 (by decide) (fun c4 => ?_) (fun c4 => ?_)
  · exact absurd c4 (by decide)
  refine lv_iload_n hx hb dX5_rubbed_7 rfl (lv_at hl 2 rfl) ?_
  refine rr_callR (va_runS (As := [.int wl]) (rest := []) ⟨hx, hb, hml, hown, hts⟩ (c_X5_isLane l wl ) (va_cwS 1 hts gX5_rubbed_X5_isLane rfl rfl rfl (by decide +kernel) ⟨Nat.le_of_ble_eq_true rfl, Nat.le_of_ble_eq_true rfl⟩) rr_preT rfl rfl hl.1 rfl (lv_room (Nat.le_of_ble_eq_true rfl)) dX5_rubbed_8 ⟨Nat.zero_le _, Nat.zero_le _⟩) ?_
  refine rr_top (y := (bi true)) (congrArg bi hwl) ?_
  refine rb_if_eq (tgt := 25) hx hb dX5_rubbed_11 (by decide) (fun c11 => ?_) (fun c11 => ?_)
  · exact absurd c11 (by decide)
  refine lv_iload hx hb dX5_rubbed_14 (lv_at hl 4 rfl) ?_
  refine lv_i2l hx hb dX5_rubbed_16 rfl ?_
  refine lv_lconst (v := 0) hx hb dX5_rubbed_17 (by decide) ?_
  refine lv_lconst (v := 1) hx hb dX5_rubbed_18 (by decide) ?_
  refine rr_callR (va_runS (As := [.long ((nI 0).toInt64), .long 0, .long 1]) (rest := []) ⟨hx, hb, hml, hown, hts⟩ (c_X5_in l ((nI 0).toInt64) 0 1 ) (va_cwS 3 hts gX5_rubbed_X5_in rfl rfl rfl (by decide +kernel) ⟨Nat.le_of_ble_eq_true rfl, Nat.le_of_ble_eq_true rfl⟩) rr_preT rfl rfl hl.1 rfl (lv_room (Nat.le_of_ble_eq_true rfl)) dX5_rubbed_19 ⟨Nat.zero_le _, Nat.zero_le _⟩) ?_
  refine rr_top (y := bi (inb (nI 0) 2)) (congrArg bi (inL_lit (by decide))) ?_
  refine rr_top (y := bi true) (congrArg bi (inb_lt (by omega) (by omega))) ?_
  refine rb_if_ne (tgt := 27) hx hb dX5_rubbed_22 (by decide) (fun c22 => ?_) (fun c22 => ?_)
  rotate_left
  · exact absurd c22 (by decide)
  refine lv_aload_n hx hb dX5_rubbed_27 rfl (lv_at hl 0 rfl) ?_
  refine lv_iload_n hx hb dX5_rubbed_28 rfl (lv_at hl 1 rfl) ?_
  refine lv_iload_n hx hb dX5_rubbed_29 rfl (lv_at hl 2 rfl) ?_
  refine lv_iload_n hx hb dX5_rubbed_30 rfl (lv_at hl 3 rfl) ?_
  refine lv_aload_n hx hb dX5_rubbed_31 rfl (lv_at hl 0 rfl) ?_
  refine va_get (D := (dC, dI)) (ci := 5) (v := .ref mw) (C := RX5) (T := TX5) (N := 15) hx hb hts hiX5 hown hK hP 0 rfl rfl 0 (by decide) (hts (.fieldLink RX5 7 "RestRegistersModel" "w" "[I") (by decide +kernel)) (fun _ h9 => h9) rfl dX5_rubbed_32 ?_
  refine lv_iconst (v := (nI 0)) hx hb dX5_rubbed_35 (by decide) ?_
  refine rn_iald hx hb hK hP 1 0 rfl rfl (i := 0) (by omega) (by decide) (v := (nI (Bw 0))) rfl dX5_rubbed_36 ?_
  refine rr_callR (va_runV (As := [.int (nI sh), .int wl, .int (nI a), .int (nI (Bw 0))]) (rest := []) ⟨hx, hb, hml, hown, hts⟩ (c_X5_against l dC dI cI cJ cS m0 mw mt ml mz mi mr md mh im tl at0 st0 nu rm rh Th Ln Sz sh wl (nI a) (nI (Bw 0)) (by first | assumption | omega) (by first | assumption | omega) (by first | assumption | omega)) (cwV 4 hts gX5_rubbed_X5_against rfl rfl rfl (by decide +kernel) ⟨Nat.le_of_ble_eq_true rfl, Nat.le_of_ble_eq_true rfl⟩) (rr_preV hKK (hP.sub [0, 2, 3] rfl) rfl rfl) rfl rfl hl.1 rfl (lv_room (Nat.le_of_ble_eq_true rfl)) dX5_rubbed_37 ⟨Nat.zero_le _, Nat.zero_le _⟩) ?_
  refine rr_top (y := nI 0) href ?_
  refine lv_istore (lv' := [(5, .int (nI 0)), (0, .ref m0), (1, .int (nI sh)), (2, .int wl), (3, .int (nI a)), (4, .int (nI 0))]) hx hb dX5_rubbed_40 hl (by decide) rfl (fun ls hl => ?_)
  refine lv_iload hx hb dX5_rubbed_42 (lv_at hl 0 rfl) ?_
  refine rn_if_ge (tgt := 50) hx hb dX5_rubbed_44 (by decide) (by omega) ?_
  refine lv_iconst (v := (nI 0)) hx hb dX5_rubbed_50 (by decide) ?_
  refine lv_istore (lv' := [(6, .int (nI 0)), (5, .int (nI 0)), (0, .ref m0), (1, .int (nI sh)), (2, .int wl), (3, .int (nI a)), (4, .int (nI 0))]) hx hb dX5_rubbed_51 hl (by decide) rfl (fun ls hl => ?_)
  refine lv_bipush (v := (-4)) hx hb dX5_rubbed_53 (by decide) ?_
  refine lv_istore (lv' := [(7, .int (-4)), (6, .int (nI 0)), (5, .int (nI 0)), (0, .ref m0), (1, .int (nI sh)), (2, .int wl), (3, .int (nI a)), (4, .int (nI 0))]) hx hb dX5_rubbed_55 hl (by decide) rfl (fun ls hl => ?_)
  refine lv_aload_n hx hb dX5_rubbed_57 rfl (lv_at hl 3 rfl) ?_
  refine rr_callR (va_runV (As := []) (rest := []) ⟨hx, hb, hml, hown, hts⟩ (c_X5_range l dC dI cI cJ cS m0 mw mt ml mz mi mr md mh im tl at0 st0 nu rm rh Bw (by first | assumption | omega)) (cwV 0 hts gX5_rubbed_X5_range rfl rfl rfl (by decide +kernel) ⟨Nat.le_of_ble_eq_true rfl, Nat.le_of_ble_eq_true rfl⟩) (rr_preV hKK (hP.sub [0, 1] rfl) rfl rfl) rfl rfl hl.1 rfl (lv_room (Nat.le_of_ble_eq_true rfl)) dX5_rubbed_58 ⟨Nat.zero_le _, Nat.zero_le _⟩) ?_
  refine lv_istore (lv' := [(8, .int (nI (rgB Bw))), (7, .int (-4)), (6, .int (nI 0)), (5, .int (nI 0)), (0, .ref m0), (1, .int (nI sh)), (2, .int wl), (3, .int (nI a)), (4, .int (nI 0))]) hx hb dX5_rubbed_61 hl (by decide) rfl (fun ls hl => ?_)
  refine lv_iconst (v := (nI 0)) hx hb dX5_rubbed_63 (by decide) ?_
  refine lv_istore (lv' := [(9, .int (nI 0)), (8, .int (nI (rgB Bw))), (7, .int (-4)), (6, .int (nI 0)), (5, .int (nI 0)), (0, .ref m0), (1, .int (nI sh)), (2, .int wl), (3, .int (nI a)), (4, .int (nI 0))]) hx hb dX5_rubbed_64 hl (by decide) rfl (fun ls hl => ?_)
  refine rl1 (A1 := Nat) (fun ls => W p l e _ s m _ below meth c s.heap [] 0 0 _ (F0 m 66 ls [])) (fun v ls => v ≤ rgB Bw ∧ lv_has ls 14 [(9, .int (nI v)), (8, .int (nI (rgB Bw))), (7, .int (rbL (Bw 0) (wdB Bw) (rwI It sh) a v)), (6, .int (nI (rbC (Bw 0) (wdB Bw) (rwI It sh) a v))), (5, .int (nI 0)), (0, .ref m0), (1, .int (nI sh)), (2, .int wl), (3, .int (nI a)), (4, .int (nI 0))]) (fun v => rgB Bw - v) ?_ 0 ls ⟨by omega, lv_sub hl [0, 1, 2, 3, 4, 5, 6, 7, 8, 9] rfl⟩
  rintro v ls ⟨hi, hl⟩ ih66
  refine lv_iload hx hb dX5_rubbed_66 (lv_at hl 0 rfl) ?_
  refine lv_iload hx hb dX5_rubbed_68 (lv_at hl 1 rfl) ?_
  refine rn_icmp_ge (tgt := 193) hx hb dX5_rubbed_70 (by decide) (by omega) (by omega) (fun c70 => ?_) (fun c70 => ?_)
  · skip
    refine lv_iload hx hb dX5_rubbed_193 (lv_at hl 9 rfl) ?_
    refine rn_if_ne (tgt := 203) hx hb dX5_rubbed_195 (by decide) (by omega) (fun c195 => ?_) (fun c195 => ?_)
    · skip
      exact absurd rfl c195
    refine lv_iload hx hb dX5_rubbed_198 (lv_at hl 3 rfl) ?_
    refine lv_goto (tgt := 205) hx hb dX5_rubbed_200 (by decide) ?_
    exact rr_iret hx hb hr hlocks dX5_rubbed_205 (by rw [Nat.le_antisymm hi c70])
  refine lv_iconst (v := (nI 1)) hx hb dX5_rubbed_73 (by decide) ?_
  refine lv_istore (lv' := [(10, .int (nI 1)), (9, .int (nI v)), (8, .int (nI (rgB Bw))), (7, .int (rbL (Bw 0) (wdB Bw) (rwI It sh) a v)), (6, .int (nI (rbC (Bw 0) (wdB Bw) (rwI It sh) a v))), (5, .int (nI 0)), (0, .ref m0), (1, .int (nI sh)), (2, .int wl), (3, .int (nI a)), (4, .int (nI 0))]) hx hb dX5_rubbed_74 hl (by decide) rfl (fun ls hl => ?_)
  refine lv_iconst (v := (nI 0)) hx hb dX5_rubbed_76 (by decide) ?_
  refine lv_istore (lv' := [(11, .int (nI 0)), (10, .int (nI 1)), (9, .int (nI v)), (8, .int (nI (rgB Bw))), (7, .int (rbL (Bw 0) (wdB Bw) (rwI It sh) a v)), (6, .int (nI (rbC (Bw 0) (wdB Bw) (rwI It sh) a v))), (5, .int (nI 0)), (0, .ref m0), (1, .int (nI sh)), (2, .int wl), (3, .int (nI a)), (4, .int (nI 0))]) hx hb dX5_rubbed_77 hl (by decide) rfl (fun ls hl => ?_)
  have hl : lv_has ls 14 [(11, .int (nI 0)), (10, .int (bi (ftB (wdB Bw) (rwI It sh) a v 0))), (9, .int (nI v)), (8, .int (nI (rgB Bw))), (7, .int (rbL (Bw 0) (wdB Bw) (rwI It sh) a v)), (6, .int (nI (rbC (Bw 0) (wdB Bw) (rwI It sh) a v))), (5, .int (nI 0)), (0, .ref m0), (1, .int (nI sh)), (2, .int wl), (3, .int (nI a)), (4, .int (nI 0))] := hl
  refine rl1 (A1 := Nat) (fun ls => W p l e _ s m _ below meth c s.heap [] 0 0 _ (F0 m 79 ls [])) (fun k ls => k ≤ Bw 0 ∧ lv_has ls 14 [(11, .int (nI k)), (10, .int (bi (ftB (wdB Bw) (rwI It sh) a v k))), (9, .int (nI v)), (8, .int (nI (rgB Bw))), (7, .int (rbL (Bw 0) (wdB Bw) (rwI It sh) a v)), (6, .int (nI (rbC (Bw 0) (wdB Bw) (rwI It sh) a v))), (5, .int (nI 0)), (0, .ref m0), (1, .int (nI sh)), (2, .int wl), (3, .int (nI a)), (4, .int (nI 0))]) (fun k => Bw 0 - k) ?_ 0 ls ⟨by omega, lv_sub hl [0, 1, 2, 3, 4, 5, 6, 7, 8, 9, 10, 11] rfl⟩
  rintro k ls ⟨hk2, hl⟩ ih79
  refine lv_iload hx hb dX5_rubbed_79 (lv_at hl 0 rfl) ?_
  refine lv_aload_n hx hb dX5_rubbed_81 rfl (lv_at hl 7 rfl) ?_
  refine va_get (D := (dC, dI)) (ci := 5) (v := .ref mw) (C := RX5) (T := TX5) (N := 15) hx hb hts hiX5 hown hK hP 0 rfl rfl 0 (by decide) (hts (.fieldLink RX5 7 "RestRegistersModel" "w" "[I") (by decide +kernel)) (fun _ h9 => h9) rfl dX5_rubbed_82 ?_
  refine lv_iconst (v := (nI 0)) hx hb dX5_rubbed_85 (by decide) ?_
  refine rn_iald hx hb hK hP 1 0 rfl rfl (i := 0) (by omega) (by decide) (v := (nI (Bw 0))) rfl dX5_rubbed_86 ?_
  refine rn_icmp_ge (tgt := 153) hx hb dX5_rubbed_87 (by decide) (by omega) (by omega) (fun c87 => ?_) (fun c87 => ?_)
  · skip
    have ek : k = Bw 0 := Nat.le_antisymm hk2 c87
    subst ek
    have hcl := rbC_le (Bw 0) (wdB Bw) (rwI It sh) a v
    refine lv_iload hx hb dX5_rubbed_153 (lv_at hl 1 rfl) ?_
    refine rb_if_eq (tgt := 168) hx hb dX5_rubbed_155 (by decide) (fun c155 => ?_) (fun c155 => ?_)
    · skip
      refine lv_iload hx hb dX5_rubbed_168 (lv_at hl 4 rfl) ?_
      refine rr_top (y := rbL (Bw 0) (wdB Bw) (rwI It sh) a (v + 1)) (by rw [rbL]; first | (rw [if_pos ⟨c155, c160⟩]; done) | (rw [if_neg (fun q => c160 q.2)]; done) | (rw [if_neg (fun q => absurd (c155.symm.trans q.1) (by decide))])) ?_
      refine lv_istore (lv' := [(7, .int (rbL (Bw 0) (wdB Bw) (rwI It sh) a (v + 1))), (11, .int (nI (Bw 0))), (10, .int (bi (ftB (wdB Bw) (rwI It sh) a v (Bw 0)))), (9, .int (nI v)), (8, .int (nI (rgB Bw))), (6, .int (nI (rbC (Bw 0) (wdB Bw) (rwI It sh) a v))), (5, .int (nI 0)), (0, .ref m0), (1, .int (nI sh)), (2, .int wl), (3, .int (nI a)), (4, .int (nI 0))]) hx hb dX5_rubbed_170 hl (by decide) rfl (fun ls hl => ?_)
      refine lv_iload hx hb dX5_rubbed_172 (lv_at hl 5 rfl) ?_
      refine lv_iload hx hb dX5_rubbed_174 (lv_at hl 2 rfl) ?_
      refine rb_if_eq (tgt := 183) hx hb dX5_rubbed_176 (by decide) (fun c176 => ?_) (fun c176 => ?_)
      · skip
        refine lv_iconst (v := (nI 0)) hx hb dX5_rubbed_183 (by decide) ?_
        refine rn_iadd hx hb dX5_rubbed_184 ?_
        refine rn_top (y := rbC (Bw 0) (wdB Bw) (rwI It sh) a (v + 1)) (by rw [rbC, c176]; rfl) ?_
        refine lv_istore (lv' := [(6, .int (nI (rbC (Bw 0) (wdB Bw) (rwI It sh) a (v + 1)))), (7, .int (rbL (Bw 0) (wdB Bw) (rwI It sh) a (v + 1))), (11, .int (nI (Bw 0))), (10, .int (bi (ftB (wdB Bw) (rwI It sh) a v (Bw 0)))), (9, .int (nI v)), (8, .int (nI (rgB Bw))), (5, .int (nI 0)), (0, .ref m0), (1, .int (nI sh)), (2, .int wl), (3, .int (nI a)), (4, .int (nI 0))]) hx hb dX5_rubbed_185 hl (by decide) rfl (fun ls hl => ?_)
        refine lv_iinc (v := (nI (v + 1))) (lv' := [(9, .int (nI (v + 1))), (6, .int (nI (rbC (Bw 0) (wdB Bw) (rwI It sh) a (v + 1)))), (7, .int (rbL (Bw 0) (wdB Bw) (rwI It sh) a (v + 1))), (11, .int (nI (Bw 0))), (10, .int (bi (ftB (wdB Bw) (rwI It sh) a v (Bw 0)))), (8, .int (nI (rgB Bw))), (5, .int (nI 0)), (0, .ref m0), (1, .int (nI sh)), (2, .int wl), (3, .int (nI a)), (4, .int (nI 0))]) hx hb dX5_rubbed_187 hl (k := 4) rfl (rn_inc v 1) (by decide) rfl (fun ls hl => ?_)
        refine lv_goto (tgt := 66) hx hb dX5_rubbed_190 (by decide) ?_
        exact ih66 (v + 1) ls ⟨by omega, lv_sub hl [0, 5, 2, 1, 6, 7, 8, 9, 10, 11] rfl⟩ (by omega)
      refine lv_iconst (v := (nI 1)) hx hb dX5_rubbed_179 (by decide) ?_
      refine lv_goto (tgt := 184) hx hb dX5_rubbed_180 (by decide) ?_
      refine rn_iadd hx hb dX5_rubbed_184 ?_
      refine rn_top (y := rbC (Bw 0) (wdB Bw) (rwI It sh) a (v + 1)) (by rw [rbC, c176]; rfl) ?_
      refine lv_istore (lv' := [(6, .int (nI (rbC (Bw 0) (wdB Bw) (rwI It sh) a (v + 1)))), (7, .int (rbL (Bw 0) (wdB Bw) (rwI It sh) a (v + 1))), (11, .int (nI (Bw 0))), (10, .int (bi (ftB (wdB Bw) (rwI It sh) a v (Bw 0)))), (9, .int (nI v)), (8, .int (nI (rgB Bw))), (5, .int (nI 0)), (0, .ref m0), (1, .int (nI sh)), (2, .int wl), (3, .int (nI a)), (4, .int (nI 0))]) hx hb dX5_rubbed_185 hl (by decide) rfl (fun ls hl => ?_)
      refine lv_iinc (v := (nI (v + 1))) (lv' := [(9, .int (nI (v + 1))), (6, .int (nI (rbC (Bw 0) (wdB Bw) (rwI It sh) a (v + 1)))), (7, .int (rbL (Bw 0) (wdB Bw) (rwI It sh) a (v + 1))), (11, .int (nI (Bw 0))), (10, .int (bi (ftB (wdB Bw) (rwI It sh) a v (Bw 0)))), (8, .int (nI (rgB Bw))), (5, .int (nI 0)), (0, .ref m0), (1, .int (nI sh)), (2, .int wl), (3, .int (nI a)), (4, .int (nI 0))]) hx hb dX5_rubbed_187 hl (k := 4) rfl (rn_inc v 1) (by decide) rfl (fun ls hl => ?_)
      refine lv_goto (tgt := 66) hx hb dX5_rubbed_190 (by decide) ?_
      exact ih66 (v + 1) ls ⟨by omega, lv_sub hl [0, 5, 2, 1, 6, 7, 8, 9, 10, 11] rfl⟩ (by omega)
    refine lv_iload hx hb dX5_rubbed_158 (lv_at hl 5 rfl) ?_
    refine rn_if_ne (tgt := 168) hx hb dX5_rubbed_160 (by decide) (by omega) (fun c160 => ?_) (fun c160 => ?_)
    · skip
      refine lv_iload hx hb dX5_rubbed_168 (lv_at hl 4 rfl) ?_
      refine rr_top (y := rbL (Bw 0) (wdB Bw) (rwI It sh) a (v + 1)) (by rw [rbL]; first | (rw [if_pos ⟨c155, c160⟩]; done) | (rw [if_neg (fun q => c160 q.2)]; done) | (rw [if_neg (fun q => absurd (c155.symm.trans q.1) (by decide))])) ?_
      refine lv_istore (lv' := [(7, .int (rbL (Bw 0) (wdB Bw) (rwI It sh) a (v + 1))), (11, .int (nI (Bw 0))), (10, .int (bi (ftB (wdB Bw) (rwI It sh) a v (Bw 0)))), (9, .int (nI v)), (8, .int (nI (rgB Bw))), (6, .int (nI (rbC (Bw 0) (wdB Bw) (rwI It sh) a v))), (5, .int (nI 0)), (0, .ref m0), (1, .int (nI sh)), (2, .int wl), (3, .int (nI a)), (4, .int (nI 0))]) hx hb dX5_rubbed_170 hl (by decide) rfl (fun ls hl => ?_)
      refine lv_iload hx hb dX5_rubbed_172 (lv_at hl 5 rfl) ?_
      refine lv_iload hx hb dX5_rubbed_174 (lv_at hl 2 rfl) ?_
      refine rb_if_eq (tgt := 183) hx hb dX5_rubbed_176 (by decide) (fun c176 => ?_) (fun c176 => ?_)
      · skip
        refine lv_iconst (v := (nI 0)) hx hb dX5_rubbed_183 (by decide) ?_
        refine rn_iadd hx hb dX5_rubbed_184 ?_
        refine rn_top (y := rbC (Bw 0) (wdB Bw) (rwI It sh) a (v + 1)) (by rw [rbC, c176]; rfl) ?_
        refine lv_istore (lv' := [(6, .int (nI (rbC (Bw 0) (wdB Bw) (rwI It sh) a (v + 1)))), (7, .int (rbL (Bw 0) (wdB Bw) (rwI It sh) a (v + 1))), (11, .int (nI (Bw 0))), (10, .int (bi (ftB (wdB Bw) (rwI It sh) a v (Bw 0)))), (9, .int (nI v)), (8, .int (nI (rgB Bw))), (5, .int (nI 0)), (0, .ref m0), (1, .int (nI sh)), (2, .int wl), (3, .int (nI a)), (4, .int (nI 0))]) hx hb dX5_rubbed_185 hl (by decide) rfl (fun ls hl => ?_)
        refine lv_iinc (v := (nI (v + 1))) (lv' := [(9, .int (nI (v + 1))), (6, .int (nI (rbC (Bw 0) (wdB Bw) (rwI It sh) a (v + 1)))), (7, .int (rbL (Bw 0) (wdB Bw) (rwI It sh) a (v + 1))), (11, .int (nI (Bw 0))), (10, .int (bi (ftB (wdB Bw) (rwI It sh) a v (Bw 0)))), (8, .int (nI (rgB Bw))), (5, .int (nI 0)), (0, .ref m0), (1, .int (nI sh)), (2, .int wl), (3, .int (nI a)), (4, .int (nI 0))]) hx hb dX5_rubbed_187 hl (k := 4) rfl (rn_inc v 1) (by decide) rfl (fun ls hl => ?_)
        refine lv_goto (tgt := 66) hx hb dX5_rubbed_190 (by decide) ?_
        exact ih66 (v + 1) ls ⟨by omega, lv_sub hl [0, 5, 2, 1, 6, 7, 8, 9, 10, 11] rfl⟩ (by omega)
      refine lv_iconst (v := (nI 1)) hx hb dX5_rubbed_179 (by decide) ?_
      refine lv_goto (tgt := 184) hx hb dX5_rubbed_180 (by decide) ?_
      refine rn_iadd hx hb dX5_rubbed_184 ?_
      refine rn_top (y := rbC (Bw 0) (wdB Bw) (rwI It sh) a (v + 1)) (by rw [rbC, c176]; rfl) ?_
      refine lv_istore (lv' := [(6, .int (nI (rbC (Bw 0) (wdB Bw) (rwI It sh) a (v + 1)))), (7, .int (rbL (Bw 0) (wdB Bw) (rwI It sh) a (v + 1))), (11, .int (nI (Bw 0))), (10, .int (bi (ftB (wdB Bw) (rwI It sh) a v (Bw 0)))), (9, .int (nI v)), (8, .int (nI (rgB Bw))), (5, .int (nI 0)), (0, .ref m0), (1, .int (nI sh)), (2, .int wl), (3, .int (nI a)), (4, .int (nI 0))]) hx hb dX5_rubbed_185 hl (by decide) rfl (fun ls hl => ?_)
      refine lv_iinc (v := (nI (v + 1))) (lv' := [(9, .int (nI (v + 1))), (6, .int (nI (rbC (Bw 0) (wdB Bw) (rwI It sh) a (v + 1)))), (7, .int (rbL (Bw 0) (wdB Bw) (rwI It sh) a (v + 1))), (11, .int (nI (Bw 0))), (10, .int (bi (ftB (wdB Bw) (rwI It sh) a v (Bw 0)))), (8, .int (nI (rgB Bw))), (5, .int (nI 0)), (0, .ref m0), (1, .int (nI sh)), (2, .int wl), (3, .int (nI a)), (4, .int (nI 0))]) hx hb dX5_rubbed_187 hl (k := 4) rfl (rn_inc v 1) (by decide) rfl (fun ls hl => ?_)
      refine lv_goto (tgt := 66) hx hb dX5_rubbed_190 (by decide) ?_
      exact ih66 (v + 1) ls ⟨by omega, lv_sub hl [0, 5, 2, 1, 6, 7, 8, 9, 10, 11] rfl⟩ (by omega)
    refine lv_iload hx hb dX5_rubbed_163 (lv_at hl 2 rfl) ?_
    refine lv_goto (tgt := 170) hx hb dX5_rubbed_165 (by decide) ?_
    refine rr_top (y := rbL (Bw 0) (wdB Bw) (rwI It sh) a (v + 1)) (by rw [rbL]; first | (rw [if_pos ⟨c155, c160⟩]; done) | (rw [if_neg (fun q => c160 q.2)]; done) | (rw [if_neg (fun q => absurd (c155.symm.trans q.1) (by decide))])) ?_
    refine lv_istore (lv' := [(7, .int (rbL (Bw 0) (wdB Bw) (rwI It sh) a (v + 1))), (11, .int (nI (Bw 0))), (10, .int (bi (ftB (wdB Bw) (rwI It sh) a v (Bw 0)))), (9, .int (nI v)), (8, .int (nI (rgB Bw))), (6, .int (nI (rbC (Bw 0) (wdB Bw) (rwI It sh) a v))), (5, .int (nI 0)), (0, .ref m0), (1, .int (nI sh)), (2, .int wl), (3, .int (nI a)), (4, .int (nI 0))]) hx hb dX5_rubbed_170 hl (by decide) rfl (fun ls hl => ?_)
    refine lv_iload hx hb dX5_rubbed_172 (lv_at hl 5 rfl) ?_
    refine lv_iload hx hb dX5_rubbed_174 (lv_at hl 2 rfl) ?_
    refine rb_if_eq (tgt := 183) hx hb dX5_rubbed_176 (by decide) (fun c176 => ?_) (fun c176 => ?_)
    · skip
      refine lv_iconst (v := (nI 0)) hx hb dX5_rubbed_183 (by decide) ?_
      refine rn_iadd hx hb dX5_rubbed_184 ?_
      refine rn_top (y := rbC (Bw 0) (wdB Bw) (rwI It sh) a (v + 1)) (by rw [rbC, c176]; rfl) ?_
      refine lv_istore (lv' := [(6, .int (nI (rbC (Bw 0) (wdB Bw) (rwI It sh) a (v + 1)))), (7, .int (rbL (Bw 0) (wdB Bw) (rwI It sh) a (v + 1))), (11, .int (nI (Bw 0))), (10, .int (bi (ftB (wdB Bw) (rwI It sh) a v (Bw 0)))), (9, .int (nI v)), (8, .int (nI (rgB Bw))), (5, .int (nI 0)), (0, .ref m0), (1, .int (nI sh)), (2, .int wl), (3, .int (nI a)), (4, .int (nI 0))]) hx hb dX5_rubbed_185 hl (by decide) rfl (fun ls hl => ?_)
      refine lv_iinc (v := (nI (v + 1))) (lv' := [(9, .int (nI (v + 1))), (6, .int (nI (rbC (Bw 0) (wdB Bw) (rwI It sh) a (v + 1)))), (7, .int (rbL (Bw 0) (wdB Bw) (rwI It sh) a (v + 1))), (11, .int (nI (Bw 0))), (10, .int (bi (ftB (wdB Bw) (rwI It sh) a v (Bw 0)))), (8, .int (nI (rgB Bw))), (5, .int (nI 0)), (0, .ref m0), (1, .int (nI sh)), (2, .int wl), (3, .int (nI a)), (4, .int (nI 0))]) hx hb dX5_rubbed_187 hl (k := 4) rfl (rn_inc v 1) (by decide) rfl (fun ls hl => ?_)
      refine lv_goto (tgt := 66) hx hb dX5_rubbed_190 (by decide) ?_
      exact ih66 (v + 1) ls ⟨by omega, lv_sub hl [0, 5, 2, 1, 6, 7, 8, 9, 10, 11] rfl⟩ (by omega)
    refine lv_iconst (v := (nI 1)) hx hb dX5_rubbed_179 (by decide) ?_
    refine lv_goto (tgt := 184) hx hb dX5_rubbed_180 (by decide) ?_
    refine rn_iadd hx hb dX5_rubbed_184 ?_
    refine rn_top (y := rbC (Bw 0) (wdB Bw) (rwI It sh) a (v + 1)) (by rw [rbC, c176]; rfl) ?_
    refine lv_istore (lv' := [(6, .int (nI (rbC (Bw 0) (wdB Bw) (rwI It sh) a (v + 1)))), (7, .int (rbL (Bw 0) (wdB Bw) (rwI It sh) a (v + 1))), (11, .int (nI (Bw 0))), (10, .int (bi (ftB (wdB Bw) (rwI It sh) a v (Bw 0)))), (9, .int (nI v)), (8, .int (nI (rgB Bw))), (5, .int (nI 0)), (0, .ref m0), (1, .int (nI sh)), (2, .int wl), (3, .int (nI a)), (4, .int (nI 0))]) hx hb dX5_rubbed_185 hl (by decide) rfl (fun ls hl => ?_)
    refine lv_iinc (v := (nI (v + 1))) (lv' := [(9, .int (nI (v + 1))), (6, .int (nI (rbC (Bw 0) (wdB Bw) (rwI It sh) a (v + 1)))), (7, .int (rbL (Bw 0) (wdB Bw) (rwI It sh) a (v + 1))), (11, .int (nI (Bw 0))), (10, .int (bi (ftB (wdB Bw) (rwI It sh) a v (Bw 0)))), (8, .int (nI (rgB Bw))), (5, .int (nI 0)), (0, .ref m0), (1, .int (nI sh)), (2, .int wl), (3, .int (nI a)), (4, .int (nI 0))]) hx hb dX5_rubbed_187 hl (k := 4) rfl (rn_inc v 1) (by decide) rfl (fun ls hl => ?_)
    refine lv_goto (tgt := 66) hx hb dX5_rubbed_190 (by decide) ?_
    exact ih66 (v + 1) ls ⟨by omega, lv_sub hl [0, 5, 2, 1, 6, 7, 8, 9, 10, 11] rfl⟩ (by omega)
  refine lv_aload_n hx hb dX5_rubbed_90 rfl (lv_at hl 7 rfl) ?_
  refine va_get (D := (dC, dI)) (ci := 5) (v := .ref mi) (C := RX5) (T := TX5) (N := 15) hx hb hts hiX5 hown hK hP 0 rfl rfl 6 (by decide) (hts (.fieldLink RX5 22 "RestRegistersModel" "items" "[J") (by decide +kernel)) (fun _ h9 => h9) rfl dX5_rubbed_91 ?_
  refine lv_bipush (v := (nI 24)) hx hb dX5_rubbed_94 (by decide) ?_
  refine lv_iload_n hx hb dX5_rubbed_96 rfl (lv_at hl 8 rfl) ?_
  refine rn_imul hx hb dX5_rubbed_97 ?_
  refine lv_iload_n hx hb dX5_rubbed_98 rfl (lv_at hl 10 rfl) ?_
  refine rn_iadd hx hb dX5_rubbed_99 ?_
  refine lv_iload hx hb dX5_rubbed_100 (lv_at hl 0 rfl) ?_
  refine rn_iadd hx hb dX5_rubbed_102 ?_
  refine rn_lald hx hb hK hP 4 1 rfl rfl (i := 24 * sh + a + k) (by omega) (by decide) (v := (It (24 * sh + a + k))) rfl dX5_rubbed_103 ?_
  refine rr_topl (y := rwI It sh (a + k)) (congrArg It (by omega)) ?_
  refine lv_lstore (lv' := [(12, .long (rwI It sh (a + k))), (11, .int (nI k)), (10, .int (bi (ftB (wdB Bw) (rwI It sh) a v k))), (9, .int (nI v)), (8, .int (nI (rgB Bw))), (7, .int (rbL (Bw 0) (wdB Bw) (rwI It sh) a v)), (6, .int (nI (rbC (Bw 0) (wdB Bw) (rwI It sh) a v))), (5, .int (nI 0)), (0, .ref m0), (1, .int (nI sh)), (2, .int wl), (3, .int (nI a)), (4, .int (nI 0))]) hx hb dX5_rubbed_104 hl (by decide) rfl (fun ls hl => ?_)
  refine lv_iload hx hb dX5_rubbed_106 (lv_at hl 2 rfl) ?_
  refine rb_if_eq (tgt := 144) hx hb dX5_rubbed_108 (by decide) (fun c108 => ?_) (fun c108 => ?_)
  · skip
    refine lv_iconst (v := (nI 0)) hx hb dX5_rubbed_144 (by decide) ?_
    refine rr_top (y := bi (ftB (wdB Bw) (rwI It sh) a v (k + 1))) (by rw [ftB]; first | (rw [c108, decide_eq_true (show rwI It sh (a + k) = -1 from cmp_eq.mp c117)]; rfl) | (rw [c108, decide_eq_true (show rwI It sh (a + k) = (nI (v % wdB Bw k)).toInt64 from cmp_eq.mp c137), Bool.or_true]; rfl) | (rw [c108, decide_eq_false (show ¬ rwI It sh (a + k) = -1 from fun q => c117 (cmp_eq.mpr q)), decide_eq_false (show ¬ rwI It sh (a + k) = (nI (v % wdB Bw k)).toInt64 from fun q => c137 (cmp_eq.mpr q))]; rfl) | (rw [c108]; rfl)) ?_
    refine lv_istore (lv' := [(10, .int (bi (ftB (wdB Bw) (rwI It sh) a v (k + 1)))), (12, .long (rwI It sh (a + k))), (11, .int (nI k)), (9, .int (nI v)), (8, .int (nI (rgB Bw))), (7, .int (rbL (Bw 0) (wdB Bw) (rwI It sh) a v)), (6, .int (nI (rbC (Bw 0) (wdB Bw) (rwI It sh) a v))), (5, .int (nI 0)), (0, .ref m0), (1, .int (nI sh)), (2, .int wl), (3, .int (nI a)), (4, .int (nI 0))]) hx hb dX5_rubbed_145 hl (by decide) rfl (fun ls hl => ?_)
    refine lv_iinc (v := (nI (k + 1))) (lv' := [(11, .int (nI (k + 1))), (10, .int (bi (ftB (wdB Bw) (rwI It sh) a v (k + 1)))), (12, .long (rwI It sh (a + k))), (9, .int (nI v)), (8, .int (nI (rgB Bw))), (7, .int (rbL (Bw 0) (wdB Bw) (rwI It sh) a v)), (6, .int (nI (rbC (Bw 0) (wdB Bw) (rwI It sh) a v))), (5, .int (nI 0)), (0, .ref m0), (1, .int (nI sh)), (2, .int wl), (3, .int (nI a)), (4, .int (nI 0))]) hx hb dX5_rubbed_147 hl (k := 2) rfl (rn_inc k 1) (by decide) rfl (fun ls hl => ?_)
    refine lv_goto (tgt := 79) hx hb dX5_rubbed_150 (by decide) ?_
    exact ih79 (k + 1) ls ⟨by omega, lv_sub hl [0, 1, 3, 4, 5, 6, 7, 8, 9, 10, 11, 12] rfl⟩ (by omega)
  refine lv_lload hx hb dX5_rubbed_111 (lv_at hl 0 rfl) ?_
  refine lv_ldc2 (v := (-1)) hx hb hown (hts (.constantLong RX5 189 (-1)) (by decide +kernel)) dX5_rubbed_113 ?_
  refine W.lcmp hx hb dX5_rubbed_116 ?_
  refine lv_if_eq (tgt := 140) hx hb dX5_rubbed_117 (by decide) (fun c117 => ?_) (fun c117 => ?_)
  · skip
    refine lv_iconst (v := (nI 1)) hx hb dX5_rubbed_140 (by decide) ?_
    refine lv_goto (tgt := 145) hx hb dX5_rubbed_141 (by decide) ?_
    refine rr_top (y := bi (ftB (wdB Bw) (rwI It sh) a v (k + 1))) (by rw [ftB]; first | (rw [c108, decide_eq_true (show rwI It sh (a + k) = -1 from cmp_eq.mp c117)]; rfl) | (rw [c108, decide_eq_true (show rwI It sh (a + k) = (nI (v % wdB Bw k)).toInt64 from cmp_eq.mp c137), Bool.or_true]; rfl) | (rw [c108, decide_eq_false (show ¬ rwI It sh (a + k) = -1 from fun q => c117 (cmp_eq.mpr q)), decide_eq_false (show ¬ rwI It sh (a + k) = (nI (v % wdB Bw k)).toInt64 from fun q => c137 (cmp_eq.mpr q))]; rfl) | (rw [c108]; rfl)) ?_
    refine lv_istore (lv' := [(10, .int (bi (ftB (wdB Bw) (rwI It sh) a v (k + 1)))), (12, .long (rwI It sh (a + k))), (11, .int (nI k)), (9, .int (nI v)), (8, .int (nI (rgB Bw))), (7, .int (rbL (Bw 0) (wdB Bw) (rwI It sh) a v)), (6, .int (nI (rbC (Bw 0) (wdB Bw) (rwI It sh) a v))), (5, .int (nI 0)), (0, .ref m0), (1, .int (nI sh)), (2, .int wl), (3, .int (nI a)), (4, .int (nI 0))]) hx hb dX5_rubbed_145 hl (by decide) rfl (fun ls hl => ?_)
    refine lv_iinc (v := (nI (k + 1))) (lv' := [(11, .int (nI (k + 1))), (10, .int (bi (ftB (wdB Bw) (rwI It sh) a v (k + 1)))), (12, .long (rwI It sh (a + k))), (9, .int (nI v)), (8, .int (nI (rgB Bw))), (7, .int (rbL (Bw 0) (wdB Bw) (rwI It sh) a v)), (6, .int (nI (rbC (Bw 0) (wdB Bw) (rwI It sh) a v))), (5, .int (nI 0)), (0, .ref m0), (1, .int (nI sh)), (2, .int wl), (3, .int (nI a)), (4, .int (nI 0))]) hx hb dX5_rubbed_147 hl (k := 2) rfl (rn_inc k 1) (by decide) rfl (fun ls hl => ?_)
    refine lv_goto (tgt := 79) hx hb dX5_rubbed_150 (by decide) ?_
    exact ih79 (k + 1) ls ⟨by omega, lv_sub hl [0, 1, 3, 4, 5, 6, 7, 8, 9, 10, 11, 12] rfl⟩ (by omega)
  refine lv_lload hx hb dX5_rubbed_120 (lv_at hl 0 rfl) ?_
  refine lv_iload hx hb dX5_rubbed_122 (lv_at hl 3 rfl) ?_
  refine lv_aload_n hx hb dX5_rubbed_124 rfl (lv_at hl 8 rfl) ?_
  refine va_get (D := (dC, dI)) (ci := 5) (v := .ref mw) (C := RX5) (T := TX5) (N := 15) hx hb hts hiX5 hown hK hP 0 rfl rfl 0 (by decide) (hts (.fieldLink RX5 7 "RestRegistersModel" "w" "[I") (by decide +kernel)) (fun _ h9 => h9) rfl dX5_rubbed_125 ?_
  refine lv_bipush (v := (nI 8)) hx hb dX5_rubbed_128 (by decide) ?_
  refine lv_iload hx hb dX5_rubbed_130 (lv_at hl 1 rfl) ?_
  refine rn_iadd hx hb dX5_rubbed_132 ?_
  refine rn_iald hx hb hK hP 1 0 rfl rfl (i := 8 + k) (by omega) (by decide) (v := (nI (wdB Bw k))) rfl dX5_rubbed_133 ?_
  have hv133 := hm.wd k (by omega)
  refine rn_irem hx hb dX5_rubbed_134 (by omega) (by omega) (by omega) ?_
  refine lv_i2l hx hb dX5_rubbed_135 rfl ?_
  refine W.lcmp hx hb dX5_rubbed_136 ?_
  refine lv_if_ne (tgt := 144) hx hb dX5_rubbed_137 (by decide) (fun c137 => ?_) (fun c137 => ?_)
  · skip
    refine lv_iconst (v := (nI 0)) hx hb dX5_rubbed_144 (by decide) ?_
    refine rr_top (y := bi (ftB (wdB Bw) (rwI It sh) a v (k + 1))) (by rw [ftB]; first | (rw [c108, decide_eq_true (show rwI It sh (a + k) = -1 from cmp_eq.mp c117)]; rfl) | (rw [c108, decide_eq_true (show rwI It sh (a + k) = (nI (v % wdB Bw k)).toInt64 from cmp_eq.mp c137), Bool.or_true]; rfl) | (rw [c108, decide_eq_false (show ¬ rwI It sh (a + k) = -1 from fun q => c117 (cmp_eq.mpr q)), decide_eq_false (show ¬ rwI It sh (a + k) = (nI (v % wdB Bw k)).toInt64 from fun q => c137 (cmp_eq.mpr q))]; rfl) | (rw [c108]; rfl)) ?_
    refine lv_istore (lv' := [(10, .int (bi (ftB (wdB Bw) (rwI It sh) a v (k + 1)))), (12, .long (rwI It sh (a + k))), (11, .int (nI k)), (9, .int (nI v)), (8, .int (nI (rgB Bw))), (7, .int (rbL (Bw 0) (wdB Bw) (rwI It sh) a v)), (6, .int (nI (rbC (Bw 0) (wdB Bw) (rwI It sh) a v))), (5, .int (nI 0)), (0, .ref m0), (1, .int (nI sh)), (2, .int wl), (3, .int (nI a)), (4, .int (nI 0))]) hx hb dX5_rubbed_145 hl (by decide) rfl (fun ls hl => ?_)
    refine lv_iinc (v := (nI (k + 1))) (lv' := [(11, .int (nI (k + 1))), (10, .int (bi (ftB (wdB Bw) (rwI It sh) a v (k + 1)))), (12, .long (rwI It sh (a + k))), (9, .int (nI v)), (8, .int (nI (rgB Bw))), (7, .int (rbL (Bw 0) (wdB Bw) (rwI It sh) a v)), (6, .int (nI (rbC (Bw 0) (wdB Bw) (rwI It sh) a v))), (5, .int (nI 0)), (0, .ref m0), (1, .int (nI sh)), (2, .int wl), (3, .int (nI a)), (4, .int (nI 0))]) hx hb dX5_rubbed_147 hl (k := 2) rfl (rn_inc k 1) (by decide) rfl (fun ls hl => ?_)
    refine lv_goto (tgt := 79) hx hb dX5_rubbed_150 (by decide) ?_
    exact ih79 (k + 1) ls ⟨by omega, lv_sub hl [0, 1, 3, 4, 5, 6, 7, 8, 9, 10, 11, 12] rfl⟩ (by omega)
  refine lv_iconst (v := (nI 1)) hx hb dX5_rubbed_140 (by decide) ?_
  refine lv_goto (tgt := 145) hx hb dX5_rubbed_141 (by decide) ?_
  refine rr_top (y := bi (ftB (wdB Bw) (rwI It sh) a v (k + 1))) (by rw [ftB]; first | (rw [c108, decide_eq_true (show rwI It sh (a + k) = -1 from cmp_eq.mp c117)]; rfl) | (rw [c108, decide_eq_true (show rwI It sh (a + k) = (nI (v % wdB Bw k)).toInt64 from cmp_eq.mp c137), Bool.or_true]; rfl) | (rw [c108, decide_eq_false (show ¬ rwI It sh (a + k) = -1 from fun q => c117 (cmp_eq.mpr q)), decide_eq_false (show ¬ rwI It sh (a + k) = (nI (v % wdB Bw k)).toInt64 from fun q => c137 (cmp_eq.mpr q))]; rfl) | (rw [c108]; rfl)) ?_
  refine lv_istore (lv' := [(10, .int (bi (ftB (wdB Bw) (rwI It sh) a v (k + 1)))), (12, .long (rwI It sh (a + k))), (11, .int (nI k)), (9, .int (nI v)), (8, .int (nI (rgB Bw))), (7, .int (rbL (Bw 0) (wdB Bw) (rwI It sh) a v)), (6, .int (nI (rbC (Bw 0) (wdB Bw) (rwI It sh) a v))), (5, .int (nI 0)), (0, .ref m0), (1, .int (nI sh)), (2, .int wl), (3, .int (nI a)), (4, .int (nI 0))]) hx hb dX5_rubbed_145 hl (by decide) rfl (fun ls hl => ?_)
  refine lv_iinc (v := (nI (k + 1))) (lv' := [(11, .int (nI (k + 1))), (10, .int (bi (ftB (wdB Bw) (rwI It sh) a v (k + 1)))), (12, .long (rwI It sh (a + k))), (9, .int (nI v)), (8, .int (nI (rgB Bw))), (7, .int (rbL (Bw 0) (wdB Bw) (rwI It sh) a v)), (6, .int (nI (rbC (Bw 0) (wdB Bw) (rwI It sh) a v))), (5, .int (nI 0)), (0, .ref m0), (1, .int (nI sh)), (2, .int wl), (3, .int (nI a)), (4, .int (nI 0))]) hx hb dX5_rubbed_147 hl (k := 2) rfl (rn_inc k 1) (by decide) rfl (fun ls hl => ?_)
  refine lv_goto (tgt := 79) hx hb dX5_rubbed_150 (by decide) ?_
  exact ih79 (k + 1) ls ⟨by omega, lv_sub hl [0, 1, 3, 4, 5, 6, 7, 8, 9, 10, 11, 12] rfl⟩ (by omega)
set_option maxHeartbeats 4000000 in
set_option maxRecDepth 100000 in
theorem c_X5_rubbed_1 (l : Launch) (dC : Nat → ClassId) (dI : Nat → Nat → Nat) (cI cJ cS : ClassId) (m0 mw mt ml mz mi mr md mh : Nat) (im : Bool) (tl at0 st0 nu rm rh : Nat) (Bw : Nat → Nat) (Th : Nat → Bool) (Ln Sz : Nat → Nat) (It : Nat → Int64) (sh a : Nat) (wl : Int32) (hm : mOk Bw) (hz : ∀ j, j < 4 → Sz j ≤ 24) (hl3 : ∀ j, j < 4 → Ln j ≤ 3) (hs4 : sh < 4) (hwl : inb wl 4 = true) (href : refI (Th sh) (Ln sh) (Sz sh) wl (nI a) (nI (Bw 0)) = nI 0) (has : a + Bw 0 ≤ 24) : Met l yX5_rubbed wsX5_rubbed ({ frames := 2, cells := 0, slots := 0, locals := 45 }) (va_Pc [.ref m0, .int (nI sh), .int wl, .int (nI a), .int (nI 1)] (rB (dC, dI) vwCl [(m0, .inr (5, [.ref mw, .int (bi im), .ref mt, .int (nI tl), .ref ml, .ref mz, .ref mi, .ref mr, .int (nI at0), .int (nI st0), .int (nI nu), .int (nI rm), .int (nI rh), .ref md, .ref mh])), (mw, .inl (cI, 480, .inl (nA Bw))), (ml, .inl (cI, 4, .inl (laF Th Ln))), (mz, .inl (cI, 4, .inl (nA Sz))), (mi, .inl (cJ, 96, .inr (.inl It)))] (tyz cI cJ cS))) (QcRead (rbL (Bw 0) (wdB Bw) (rwI It sh) a (rgB Bw))) 0 0 (fun _ => False) := by
  refine Met.ofW (cc := cX5_rubbed) (maxL := 14) (ret := (some .int)) (by decide) rfl ?_
  intro p e s m args below meth c s₁ B hml hv
  obtain ⟨rfl, hP, hKK⟩ := hv
  have hK := hKK.1
  have hx := B.exec
  have hb := B.bytes
  have hr := B.returns
  have hts := atoms_spec (ws := wsX5_rubbed) B.pre
  have hown : s.vm.findClass RX5 = some m.cls := findClass_of_methodNamed B.named
  have hlocks := B.notSynchronized
  have hiX5 : ∀ w ∈ wsX50, w ∈ wsX5_rubbed := by decide +kernel
  have hl := lv_entry ([.ref m0, .int (nI sh), .int wl, .int (nI a), .int (nI 1)]) (n := 14) (Nat.le_of_ble_eq_true rfl)
  rw [lg_entry_eq]
  generalize (lg_sl ([.ref m0, .int (nI sh), .int wl, .int (nI a), .int (nI 1)]) ++ List.replicate (14 - (lg_sl ([.ref m0, .int (nI sh), .int wl, .int (nI a), .int (nI 1)])).length) Slot.unset).toArray = ls at hl ⊢
  have hl : lv_has ls 14 [(0, .ref m0), (1, .int (nI sh)), (2, .int wl), (3, .int (nI a)), (4, .int (nI 1))] := hl
  have hn6 := hm.n
  have hrg := rgB_b hm
  refine lv_iload_n hx hb dX5_rubbed_0 rfl (lv_at hl 1 rfl) ?_
  refine rr_callR (va_runS (As := [.int (nI sh)]) (rest := []) ⟨hx, hb, hml, hown, hts⟩ (c_X5_isRegister l (nI sh) ) (va_cwS 1 hts gX5_rubbed_X5_isRegister rfl rfl rfl (by decide +kernel) ⟨Nat.le_of_ble_eq_true rfl, Nat.le_of_ble_eq_true rfl⟩) rr_preT rfl rfl hl.1 rfl (lv_room (Nat.le_of_ble_eq_true rfl)) dX5_rubbed_1 ⟨Nat.zero_le _, Nat.zero_le _⟩) ?_
  refine rr_top (y := bi true) (congrArg bi (inb_lt (by omega) (by omega))) ?_
  refine rb_if_eq (tgt := 25) hx hb dX5_rubbed_4 (by decide) (fun c4 => ?_) (fun c4 => ?_)
  · exact absurd c4 (by decide)
  refine lv_iload_n hx hb dX5_rubbed_7 rfl (lv_at hl 2 rfl) ?_
  refine rr_callR (va_runS (As := [.int wl]) (rest := []) ⟨hx, hb, hml, hown, hts⟩ (c_X5_isLane l wl ) (va_cwS 1 hts gX5_rubbed_X5_isLane rfl rfl rfl (by decide +kernel) ⟨Nat.le_of_ble_eq_true rfl, Nat.le_of_ble_eq_true rfl⟩) rr_preT rfl rfl hl.1 rfl (lv_room (Nat.le_of_ble_eq_true rfl)) dX5_rubbed_8 ⟨Nat.zero_le _, Nat.zero_le _⟩) ?_
  refine rr_top (y := (bi true)) (congrArg bi hwl) ?_
  refine rb_if_eq (tgt := 25) hx hb dX5_rubbed_11 (by decide) (fun c11 => ?_) (fun c11 => ?_)
  · exact absurd c11 (by decide)
  refine lv_iload hx hb dX5_rubbed_14 (lv_at hl 4 rfl) ?_
  refine lv_i2l hx hb dX5_rubbed_16 rfl ?_
  refine lv_lconst (v := 0) hx hb dX5_rubbed_17 (by decide) ?_
  refine lv_lconst (v := 1) hx hb dX5_rubbed_18 (by decide) ?_
  refine rr_callR (va_runS (As := [.long ((nI 1).toInt64), .long 0, .long 1]) (rest := []) ⟨hx, hb, hml, hown, hts⟩ (c_X5_in l ((nI 1).toInt64) 0 1 ) (va_cwS 3 hts gX5_rubbed_X5_in rfl rfl rfl (by decide +kernel) ⟨Nat.le_of_ble_eq_true rfl, Nat.le_of_ble_eq_true rfl⟩) rr_preT rfl rfl hl.1 rfl (lv_room (Nat.le_of_ble_eq_true rfl)) dX5_rubbed_19 ⟨Nat.zero_le _, Nat.zero_le _⟩) ?_
  refine rr_top (y := bi (inb (nI 1) 2)) (congrArg bi (inL_lit (by decide))) ?_
  refine rr_top (y := bi true) (congrArg bi (inb_lt (by omega) (by omega))) ?_
  refine rb_if_ne (tgt := 27) hx hb dX5_rubbed_22 (by decide) (fun c22 => ?_) (fun c22 => ?_)
  rotate_left
  · exact absurd c22 (by decide)
  refine lv_aload_n hx hb dX5_rubbed_27 rfl (lv_at hl 0 rfl) ?_
  refine lv_iload_n hx hb dX5_rubbed_28 rfl (lv_at hl 1 rfl) ?_
  refine lv_iload_n hx hb dX5_rubbed_29 rfl (lv_at hl 2 rfl) ?_
  refine lv_iload_n hx hb dX5_rubbed_30 rfl (lv_at hl 3 rfl) ?_
  refine lv_aload_n hx hb dX5_rubbed_31 rfl (lv_at hl 0 rfl) ?_
  refine va_get (D := (dC, dI)) (ci := 5) (v := .ref mw) (C := RX5) (T := TX5) (N := 15) hx hb hts hiX5 hown hK hP 0 rfl rfl 0 (by decide) (hts (.fieldLink RX5 7 "RestRegistersModel" "w" "[I") (by decide +kernel)) (fun _ h9 => h9) rfl dX5_rubbed_32 ?_
  refine lv_iconst (v := (nI 0)) hx hb dX5_rubbed_35 (by decide) ?_
  refine rn_iald hx hb hK hP 1 0 rfl rfl (i := 0) (by omega) (by decide) (v := (nI (Bw 0))) rfl dX5_rubbed_36 ?_
  refine rr_callR (va_runV (As := [.int (nI sh), .int wl, .int (nI a), .int (nI (Bw 0))]) (rest := []) ⟨hx, hb, hml, hown, hts⟩ (c_X5_against l dC dI cI cJ cS m0 mw mt ml mz mi mr md mh im tl at0 st0 nu rm rh Th Ln Sz sh wl (nI a) (nI (Bw 0)) (by first | assumption | omega) (by first | assumption | omega) (by first | assumption | omega)) (cwV 4 hts gX5_rubbed_X5_against rfl rfl rfl (by decide +kernel) ⟨Nat.le_of_ble_eq_true rfl, Nat.le_of_ble_eq_true rfl⟩) (rr_preV hKK (hP.sub [0, 2, 3] rfl) rfl rfl) rfl rfl hl.1 rfl (lv_room (Nat.le_of_ble_eq_true rfl)) dX5_rubbed_37 ⟨Nat.zero_le _, Nat.zero_le _⟩) ?_
  refine rr_top (y := nI 0) href ?_
  refine lv_istore (lv' := [(5, .int (nI 0)), (0, .ref m0), (1, .int (nI sh)), (2, .int wl), (3, .int (nI a)), (4, .int (nI 1))]) hx hb dX5_rubbed_40 hl (by decide) rfl (fun ls hl => ?_)
  refine lv_iload hx hb dX5_rubbed_42 (lv_at hl 0 rfl) ?_
  refine rn_if_ge (tgt := 50) hx hb dX5_rubbed_44 (by decide) (by omega) ?_
  refine lv_iconst (v := (nI 0)) hx hb dX5_rubbed_50 (by decide) ?_
  refine lv_istore (lv' := [(6, .int (nI 0)), (5, .int (nI 0)), (0, .ref m0), (1, .int (nI sh)), (2, .int wl), (3, .int (nI a)), (4, .int (nI 1))]) hx hb dX5_rubbed_51 hl (by decide) rfl (fun ls hl => ?_)
  refine lv_bipush (v := (-4)) hx hb dX5_rubbed_53 (by decide) ?_
  refine lv_istore (lv' := [(7, .int (-4)), (6, .int (nI 0)), (5, .int (nI 0)), (0, .ref m0), (1, .int (nI sh)), (2, .int wl), (3, .int (nI a)), (4, .int (nI 1))]) hx hb dX5_rubbed_55 hl (by decide) rfl (fun ls hl => ?_)
  refine lv_aload_n hx hb dX5_rubbed_57 rfl (lv_at hl 3 rfl) ?_
  refine rr_callR (va_runV (As := []) (rest := []) ⟨hx, hb, hml, hown, hts⟩ (c_X5_range l dC dI cI cJ cS m0 mw mt ml mz mi mr md mh im tl at0 st0 nu rm rh Bw (by first | assumption | omega)) (cwV 0 hts gX5_rubbed_X5_range rfl rfl rfl (by decide +kernel) ⟨Nat.le_of_ble_eq_true rfl, Nat.le_of_ble_eq_true rfl⟩) (rr_preV hKK (hP.sub [0, 1] rfl) rfl rfl) rfl rfl hl.1 rfl (lv_room (Nat.le_of_ble_eq_true rfl)) dX5_rubbed_58 ⟨Nat.zero_le _, Nat.zero_le _⟩) ?_
  refine lv_istore (lv' := [(8, .int (nI (rgB Bw))), (7, .int (-4)), (6, .int (nI 0)), (5, .int (nI 0)), (0, .ref m0), (1, .int (nI sh)), (2, .int wl), (3, .int (nI a)), (4, .int (nI 1))]) hx hb dX5_rubbed_61 hl (by decide) rfl (fun ls hl => ?_)
  refine lv_iconst (v := (nI 0)) hx hb dX5_rubbed_63 (by decide) ?_
  refine lv_istore (lv' := [(9, .int (nI 0)), (8, .int (nI (rgB Bw))), (7, .int (-4)), (6, .int (nI 0)), (5, .int (nI 0)), (0, .ref m0), (1, .int (nI sh)), (2, .int wl), (3, .int (nI a)), (4, .int (nI 1))]) hx hb dX5_rubbed_64 hl (by decide) rfl (fun ls hl => ?_)
  refine rl1 (A1 := Nat) (fun ls => W p l e _ s m _ below meth c s.heap [] 0 0 _ (F0 m 66 ls [])) (fun v ls => v ≤ rgB Bw ∧ lv_has ls 14 [(9, .int (nI v)), (8, .int (nI (rgB Bw))), (7, .int (rbL (Bw 0) (wdB Bw) (rwI It sh) a v)), (6, .int (nI (rbC (Bw 0) (wdB Bw) (rwI It sh) a v))), (5, .int (nI 0)), (0, .ref m0), (1, .int (nI sh)), (2, .int wl), (3, .int (nI a)), (4, .int (nI 1))]) (fun v => rgB Bw - v) ?_ 0 ls ⟨by omega, lv_sub hl [0, 1, 2, 3, 4, 5, 6, 7, 8, 9] rfl⟩
  rintro v ls ⟨hi, hl⟩ ih66
  refine lv_iload hx hb dX5_rubbed_66 (lv_at hl 0 rfl) ?_
  refine lv_iload hx hb dX5_rubbed_68 (lv_at hl 1 rfl) ?_
  refine rn_icmp_ge (tgt := 193) hx hb dX5_rubbed_70 (by decide) (by omega) (by omega) (fun c70 => ?_) (fun c70 => ?_)
  · skip
    refine lv_iload hx hb dX5_rubbed_193 (lv_at hl 9 rfl) ?_
    refine rn_if_ne (tgt := 203) hx hb dX5_rubbed_195 (by decide) (by omega) (fun c195 => ?_) (fun c195 => ?_)
    · skip
      refine lv_iload hx hb dX5_rubbed_203 (lv_at hl 2 rfl) ?_
      exact rr_iret hx hb hr hlocks dX5_rubbed_205 (by rw [Nat.le_antisymm hi c70])
    exact absurd c195 (by decide)
  refine lv_iconst (v := (nI 1)) hx hb dX5_rubbed_73 (by decide) ?_
  refine lv_istore (lv' := [(10, .int (nI 1)), (9, .int (nI v)), (8, .int (nI (rgB Bw))), (7, .int (rbL (Bw 0) (wdB Bw) (rwI It sh) a v)), (6, .int (nI (rbC (Bw 0) (wdB Bw) (rwI It sh) a v))), (5, .int (nI 0)), (0, .ref m0), (1, .int (nI sh)), (2, .int wl), (3, .int (nI a)), (4, .int (nI 1))]) hx hb dX5_rubbed_74 hl (by decide) rfl (fun ls hl => ?_)
  refine lv_iconst (v := (nI 0)) hx hb dX5_rubbed_76 (by decide) ?_
  refine lv_istore (lv' := [(11, .int (nI 0)), (10, .int (nI 1)), (9, .int (nI v)), (8, .int (nI (rgB Bw))), (7, .int (rbL (Bw 0) (wdB Bw) (rwI It sh) a v)), (6, .int (nI (rbC (Bw 0) (wdB Bw) (rwI It sh) a v))), (5, .int (nI 0)), (0, .ref m0), (1, .int (nI sh)), (2, .int wl), (3, .int (nI a)), (4, .int (nI 1))]) hx hb dX5_rubbed_77 hl (by decide) rfl (fun ls hl => ?_)
  have hl : lv_has ls 14 [(11, .int (nI 0)), (10, .int (bi (ftB (wdB Bw) (rwI It sh) a v 0))), (9, .int (nI v)), (8, .int (nI (rgB Bw))), (7, .int (rbL (Bw 0) (wdB Bw) (rwI It sh) a v)), (6, .int (nI (rbC (Bw 0) (wdB Bw) (rwI It sh) a v))), (5, .int (nI 0)), (0, .ref m0), (1, .int (nI sh)), (2, .int wl), (3, .int (nI a)), (4, .int (nI 1))] := hl
  refine rl1 (A1 := Nat) (fun ls => W p l e _ s m _ below meth c s.heap [] 0 0 _ (F0 m 79 ls [])) (fun k ls => k ≤ Bw 0 ∧ lv_has ls 14 [(11, .int (nI k)), (10, .int (bi (ftB (wdB Bw) (rwI It sh) a v k))), (9, .int (nI v)), (8, .int (nI (rgB Bw))), (7, .int (rbL (Bw 0) (wdB Bw) (rwI It sh) a v)), (6, .int (nI (rbC (Bw 0) (wdB Bw) (rwI It sh) a v))), (5, .int (nI 0)), (0, .ref m0), (1, .int (nI sh)), (2, .int wl), (3, .int (nI a)), (4, .int (nI 1))]) (fun k => Bw 0 - k) ?_ 0 ls ⟨by omega, lv_sub hl [0, 1, 2, 3, 4, 5, 6, 7, 8, 9, 10, 11] rfl⟩
  rintro k ls ⟨hk2, hl⟩ ih79
  refine lv_iload hx hb dX5_rubbed_79 (lv_at hl 0 rfl) ?_
  refine lv_aload_n hx hb dX5_rubbed_81 rfl (lv_at hl 7 rfl) ?_
  refine va_get (D := (dC, dI)) (ci := 5) (v := .ref mw) (C := RX5) (T := TX5) (N := 15) hx hb hts hiX5 hown hK hP 0 rfl rfl 0 (by decide) (hts (.fieldLink RX5 7 "RestRegistersModel" "w" "[I") (by decide +kernel)) (fun _ h9 => h9) rfl dX5_rubbed_82 ?_
  refine lv_iconst (v := (nI 0)) hx hb dX5_rubbed_85 (by decide) ?_
  refine rn_iald hx hb hK hP 1 0 rfl rfl (i := 0) (by omega) (by decide) (v := (nI (Bw 0))) rfl dX5_rubbed_86 ?_
  refine rn_icmp_ge (tgt := 153) hx hb dX5_rubbed_87 (by decide) (by omega) (by omega) (fun c87 => ?_) (fun c87 => ?_)
  · skip
    have ek : k = Bw 0 := Nat.le_antisymm hk2 c87
    subst ek
    have hcl := rbC_le (Bw 0) (wdB Bw) (rwI It sh) a v
    refine lv_iload hx hb dX5_rubbed_153 (lv_at hl 1 rfl) ?_
    refine rb_if_eq (tgt := 168) hx hb dX5_rubbed_155 (by decide) (fun c155 => ?_) (fun c155 => ?_)
    · skip
      refine lv_iload hx hb dX5_rubbed_168 (lv_at hl 4 rfl) ?_
      refine rr_top (y := rbL (Bw 0) (wdB Bw) (rwI It sh) a (v + 1)) (by rw [rbL]; first | (rw [if_pos ⟨c155, c160⟩]; done) | (rw [if_neg (fun q => c160 q.2)]; done) | (rw [if_neg (fun q => absurd (c155.symm.trans q.1) (by decide))])) ?_
      refine lv_istore (lv' := [(7, .int (rbL (Bw 0) (wdB Bw) (rwI It sh) a (v + 1))), (11, .int (nI (Bw 0))), (10, .int (bi (ftB (wdB Bw) (rwI It sh) a v (Bw 0)))), (9, .int (nI v)), (8, .int (nI (rgB Bw))), (6, .int (nI (rbC (Bw 0) (wdB Bw) (rwI It sh) a v))), (5, .int (nI 0)), (0, .ref m0), (1, .int (nI sh)), (2, .int wl), (3, .int (nI a)), (4, .int (nI 1))]) hx hb dX5_rubbed_170 hl (by decide) rfl (fun ls hl => ?_)
      refine lv_iload hx hb dX5_rubbed_172 (lv_at hl 5 rfl) ?_
      refine lv_iload hx hb dX5_rubbed_174 (lv_at hl 2 rfl) ?_
      refine rb_if_eq (tgt := 183) hx hb dX5_rubbed_176 (by decide) (fun c176 => ?_) (fun c176 => ?_)
      · skip
        refine lv_iconst (v := (nI 0)) hx hb dX5_rubbed_183 (by decide) ?_
        refine rn_iadd hx hb dX5_rubbed_184 ?_
        refine rn_top (y := rbC (Bw 0) (wdB Bw) (rwI It sh) a (v + 1)) (by rw [rbC, c176]; rfl) ?_
        refine lv_istore (lv' := [(6, .int (nI (rbC (Bw 0) (wdB Bw) (rwI It sh) a (v + 1)))), (7, .int (rbL (Bw 0) (wdB Bw) (rwI It sh) a (v + 1))), (11, .int (nI (Bw 0))), (10, .int (bi (ftB (wdB Bw) (rwI It sh) a v (Bw 0)))), (9, .int (nI v)), (8, .int (nI (rgB Bw))), (5, .int (nI 0)), (0, .ref m0), (1, .int (nI sh)), (2, .int wl), (3, .int (nI a)), (4, .int (nI 1))]) hx hb dX5_rubbed_185 hl (by decide) rfl (fun ls hl => ?_)
        refine lv_iinc (v := (nI (v + 1))) (lv' := [(9, .int (nI (v + 1))), (6, .int (nI (rbC (Bw 0) (wdB Bw) (rwI It sh) a (v + 1)))), (7, .int (rbL (Bw 0) (wdB Bw) (rwI It sh) a (v + 1))), (11, .int (nI (Bw 0))), (10, .int (bi (ftB (wdB Bw) (rwI It sh) a v (Bw 0)))), (8, .int (nI (rgB Bw))), (5, .int (nI 0)), (0, .ref m0), (1, .int (nI sh)), (2, .int wl), (3, .int (nI a)), (4, .int (nI 1))]) hx hb dX5_rubbed_187 hl (k := 4) rfl (rn_inc v 1) (by decide) rfl (fun ls hl => ?_)
        refine lv_goto (tgt := 66) hx hb dX5_rubbed_190 (by decide) ?_
        exact ih66 (v + 1) ls ⟨by omega, lv_sub hl [0, 5, 2, 1, 6, 7, 8, 9, 10, 11] rfl⟩ (by omega)
      refine lv_iconst (v := (nI 1)) hx hb dX5_rubbed_179 (by decide) ?_
      refine lv_goto (tgt := 184) hx hb dX5_rubbed_180 (by decide) ?_
      refine rn_iadd hx hb dX5_rubbed_184 ?_
      refine rn_top (y := rbC (Bw 0) (wdB Bw) (rwI It sh) a (v + 1)) (by rw [rbC, c176]; rfl) ?_
      refine lv_istore (lv' := [(6, .int (nI (rbC (Bw 0) (wdB Bw) (rwI It sh) a (v + 1)))), (7, .int (rbL (Bw 0) (wdB Bw) (rwI It sh) a (v + 1))), (11, .int (nI (Bw 0))), (10, .int (bi (ftB (wdB Bw) (rwI It sh) a v (Bw 0)))), (9, .int (nI v)), (8, .int (nI (rgB Bw))), (5, .int (nI 0)), (0, .ref m0), (1, .int (nI sh)), (2, .int wl), (3, .int (nI a)), (4, .int (nI 1))]) hx hb dX5_rubbed_185 hl (by decide) rfl (fun ls hl => ?_)
      refine lv_iinc (v := (nI (v + 1))) (lv' := [(9, .int (nI (v + 1))), (6, .int (nI (rbC (Bw 0) (wdB Bw) (rwI It sh) a (v + 1)))), (7, .int (rbL (Bw 0) (wdB Bw) (rwI It sh) a (v + 1))), (11, .int (nI (Bw 0))), (10, .int (bi (ftB (wdB Bw) (rwI It sh) a v (Bw 0)))), (8, .int (nI (rgB Bw))), (5, .int (nI 0)), (0, .ref m0), (1, .int (nI sh)), (2, .int wl), (3, .int (nI a)), (4, .int (nI 1))]) hx hb dX5_rubbed_187 hl (k := 4) rfl (rn_inc v 1) (by decide) rfl (fun ls hl => ?_)
      refine lv_goto (tgt := 66) hx hb dX5_rubbed_190 (by decide) ?_
      exact ih66 (v + 1) ls ⟨by omega, lv_sub hl [0, 5, 2, 1, 6, 7, 8, 9, 10, 11] rfl⟩ (by omega)
    refine lv_iload hx hb dX5_rubbed_158 (lv_at hl 5 rfl) ?_
    refine rn_if_ne (tgt := 168) hx hb dX5_rubbed_160 (by decide) (by omega) (fun c160 => ?_) (fun c160 => ?_)
    · skip
      refine lv_iload hx hb dX5_rubbed_168 (lv_at hl 4 rfl) ?_
      refine rr_top (y := rbL (Bw 0) (wdB Bw) (rwI It sh) a (v + 1)) (by rw [rbL]; first | (rw [if_pos ⟨c155, c160⟩]; done) | (rw [if_neg (fun q => c160 q.2)]; done) | (rw [if_neg (fun q => absurd (c155.symm.trans q.1) (by decide))])) ?_
      refine lv_istore (lv' := [(7, .int (rbL (Bw 0) (wdB Bw) (rwI It sh) a (v + 1))), (11, .int (nI (Bw 0))), (10, .int (bi (ftB (wdB Bw) (rwI It sh) a v (Bw 0)))), (9, .int (nI v)), (8, .int (nI (rgB Bw))), (6, .int (nI (rbC (Bw 0) (wdB Bw) (rwI It sh) a v))), (5, .int (nI 0)), (0, .ref m0), (1, .int (nI sh)), (2, .int wl), (3, .int (nI a)), (4, .int (nI 1))]) hx hb dX5_rubbed_170 hl (by decide) rfl (fun ls hl => ?_)
      refine lv_iload hx hb dX5_rubbed_172 (lv_at hl 5 rfl) ?_
      refine lv_iload hx hb dX5_rubbed_174 (lv_at hl 2 rfl) ?_
      refine rb_if_eq (tgt := 183) hx hb dX5_rubbed_176 (by decide) (fun c176 => ?_) (fun c176 => ?_)
      · skip
        refine lv_iconst (v := (nI 0)) hx hb dX5_rubbed_183 (by decide) ?_
        refine rn_iadd hx hb dX5_rubbed_184 ?_
        refine rn_top (y := rbC (Bw 0) (wdB Bw) (rwI It sh) a (v + 1)) (by rw [rbC, c176]; rfl) ?_
        refine lv_istore (lv' := [(6, .int (nI (rbC (Bw 0) (wdB Bw) (rwI It sh) a (v + 1)))), (7, .int (rbL (Bw 0) (wdB Bw) (rwI It sh) a (v + 1))), (11, .int (nI (Bw 0))), (10, .int (bi (ftB (wdB Bw) (rwI It sh) a v (Bw 0)))), (9, .int (nI v)), (8, .int (nI (rgB Bw))), (5, .int (nI 0)), (0, .ref m0), (1, .int (nI sh)), (2, .int wl), (3, .int (nI a)), (4, .int (nI 1))]) hx hb dX5_rubbed_185 hl (by decide) rfl (fun ls hl => ?_)
        refine lv_iinc (v := (nI (v + 1))) (lv' := [(9, .int (nI (v + 1))), (6, .int (nI (rbC (Bw 0) (wdB Bw) (rwI It sh) a (v + 1)))), (7, .int (rbL (Bw 0) (wdB Bw) (rwI It sh) a (v + 1))), (11, .int (nI (Bw 0))), (10, .int (bi (ftB (wdB Bw) (rwI It sh) a v (Bw 0)))), (8, .int (nI (rgB Bw))), (5, .int (nI 0)), (0, .ref m0), (1, .int (nI sh)), (2, .int wl), (3, .int (nI a)), (4, .int (nI 1))]) hx hb dX5_rubbed_187 hl (k := 4) rfl (rn_inc v 1) (by decide) rfl (fun ls hl => ?_)
        refine lv_goto (tgt := 66) hx hb dX5_rubbed_190 (by decide) ?_
        exact ih66 (v + 1) ls ⟨by omega, lv_sub hl [0, 5, 2, 1, 6, 7, 8, 9, 10, 11] rfl⟩ (by omega)
      refine lv_iconst (v := (nI 1)) hx hb dX5_rubbed_179 (by decide) ?_
      refine lv_goto (tgt := 184) hx hb dX5_rubbed_180 (by decide) ?_
      refine rn_iadd hx hb dX5_rubbed_184 ?_
      refine rn_top (y := rbC (Bw 0) (wdB Bw) (rwI It sh) a (v + 1)) (by rw [rbC, c176]; rfl) ?_
      refine lv_istore (lv' := [(6, .int (nI (rbC (Bw 0) (wdB Bw) (rwI It sh) a (v + 1)))), (7, .int (rbL (Bw 0) (wdB Bw) (rwI It sh) a (v + 1))), (11, .int (nI (Bw 0))), (10, .int (bi (ftB (wdB Bw) (rwI It sh) a v (Bw 0)))), (9, .int (nI v)), (8, .int (nI (rgB Bw))), (5, .int (nI 0)), (0, .ref m0), (1, .int (nI sh)), (2, .int wl), (3, .int (nI a)), (4, .int (nI 1))]) hx hb dX5_rubbed_185 hl (by decide) rfl (fun ls hl => ?_)
      refine lv_iinc (v := (nI (v + 1))) (lv' := [(9, .int (nI (v + 1))), (6, .int (nI (rbC (Bw 0) (wdB Bw) (rwI It sh) a (v + 1)))), (7, .int (rbL (Bw 0) (wdB Bw) (rwI It sh) a (v + 1))), (11, .int (nI (Bw 0))), (10, .int (bi (ftB (wdB Bw) (rwI It sh) a v (Bw 0)))), (8, .int (nI (rgB Bw))), (5, .int (nI 0)), (0, .ref m0), (1, .int (nI sh)), (2, .int wl), (3, .int (nI a)), (4, .int (nI 1))]) hx hb dX5_rubbed_187 hl (k := 4) rfl (rn_inc v 1) (by decide) rfl (fun ls hl => ?_)
      refine lv_goto (tgt := 66) hx hb dX5_rubbed_190 (by decide) ?_
      exact ih66 (v + 1) ls ⟨by omega, lv_sub hl [0, 5, 2, 1, 6, 7, 8, 9, 10, 11] rfl⟩ (by omega)
    refine lv_iload hx hb dX5_rubbed_163 (lv_at hl 2 rfl) ?_
    refine lv_goto (tgt := 170) hx hb dX5_rubbed_165 (by decide) ?_
    refine rr_top (y := rbL (Bw 0) (wdB Bw) (rwI It sh) a (v + 1)) (by rw [rbL]; first | (rw [if_pos ⟨c155, c160⟩]; done) | (rw [if_neg (fun q => c160 q.2)]; done) | (rw [if_neg (fun q => absurd (c155.symm.trans q.1) (by decide))])) ?_
    refine lv_istore (lv' := [(7, .int (rbL (Bw 0) (wdB Bw) (rwI It sh) a (v + 1))), (11, .int (nI (Bw 0))), (10, .int (bi (ftB (wdB Bw) (rwI It sh) a v (Bw 0)))), (9, .int (nI v)), (8, .int (nI (rgB Bw))), (6, .int (nI (rbC (Bw 0) (wdB Bw) (rwI It sh) a v))), (5, .int (nI 0)), (0, .ref m0), (1, .int (nI sh)), (2, .int wl), (3, .int (nI a)), (4, .int (nI 1))]) hx hb dX5_rubbed_170 hl (by decide) rfl (fun ls hl => ?_)
    refine lv_iload hx hb dX5_rubbed_172 (lv_at hl 5 rfl) ?_
    refine lv_iload hx hb dX5_rubbed_174 (lv_at hl 2 rfl) ?_
    refine rb_if_eq (tgt := 183) hx hb dX5_rubbed_176 (by decide) (fun c176 => ?_) (fun c176 => ?_)
    · skip
      refine lv_iconst (v := (nI 0)) hx hb dX5_rubbed_183 (by decide) ?_
      refine rn_iadd hx hb dX5_rubbed_184 ?_
      refine rn_top (y := rbC (Bw 0) (wdB Bw) (rwI It sh) a (v + 1)) (by rw [rbC, c176]; rfl) ?_
      refine lv_istore (lv' := [(6, .int (nI (rbC (Bw 0) (wdB Bw) (rwI It sh) a (v + 1)))), (7, .int (rbL (Bw 0) (wdB Bw) (rwI It sh) a (v + 1))), (11, .int (nI (Bw 0))), (10, .int (bi (ftB (wdB Bw) (rwI It sh) a v (Bw 0)))), (9, .int (nI v)), (8, .int (nI (rgB Bw))), (5, .int (nI 0)), (0, .ref m0), (1, .int (nI sh)), (2, .int wl), (3, .int (nI a)), (4, .int (nI 1))]) hx hb dX5_rubbed_185 hl (by decide) rfl (fun ls hl => ?_)
      refine lv_iinc (v := (nI (v + 1))) (lv' := [(9, .int (nI (v + 1))), (6, .int (nI (rbC (Bw 0) (wdB Bw) (rwI It sh) a (v + 1)))), (7, .int (rbL (Bw 0) (wdB Bw) (rwI It sh) a (v + 1))), (11, .int (nI (Bw 0))), (10, .int (bi (ftB (wdB Bw) (rwI It sh) a v (Bw 0)))), (8, .int (nI (rgB Bw))), (5, .int (nI 0)), (0, .ref m0), (1, .int (nI sh)), (2, .int wl), (3, .int (nI a)), (4, .int (nI 1))]) hx hb dX5_rubbed_187 hl (k := 4) rfl (rn_inc v 1) (by decide) rfl (fun ls hl => ?_)
      refine lv_goto (tgt := 66) hx hb dX5_rubbed_190 (by decide) ?_
      exact ih66 (v + 1) ls ⟨by omega, lv_sub hl [0, 5, 2, 1, 6, 7, 8, 9, 10, 11] rfl⟩ (by omega)
    refine lv_iconst (v := (nI 1)) hx hb dX5_rubbed_179 (by decide) ?_
    refine lv_goto (tgt := 184) hx hb dX5_rubbed_180 (by decide) ?_
    refine rn_iadd hx hb dX5_rubbed_184 ?_
    refine rn_top (y := rbC (Bw 0) (wdB Bw) (rwI It sh) a (v + 1)) (by rw [rbC, c176]; rfl) ?_
    refine lv_istore (lv' := [(6, .int (nI (rbC (Bw 0) (wdB Bw) (rwI It sh) a (v + 1)))), (7, .int (rbL (Bw 0) (wdB Bw) (rwI It sh) a (v + 1))), (11, .int (nI (Bw 0))), (10, .int (bi (ftB (wdB Bw) (rwI It sh) a v (Bw 0)))), (9, .int (nI v)), (8, .int (nI (rgB Bw))), (5, .int (nI 0)), (0, .ref m0), (1, .int (nI sh)), (2, .int wl), (3, .int (nI a)), (4, .int (nI 1))]) hx hb dX5_rubbed_185 hl (by decide) rfl (fun ls hl => ?_)
    refine lv_iinc (v := (nI (v + 1))) (lv' := [(9, .int (nI (v + 1))), (6, .int (nI (rbC (Bw 0) (wdB Bw) (rwI It sh) a (v + 1)))), (7, .int (rbL (Bw 0) (wdB Bw) (rwI It sh) a (v + 1))), (11, .int (nI (Bw 0))), (10, .int (bi (ftB (wdB Bw) (rwI It sh) a v (Bw 0)))), (8, .int (nI (rgB Bw))), (5, .int (nI 0)), (0, .ref m0), (1, .int (nI sh)), (2, .int wl), (3, .int (nI a)), (4, .int (nI 1))]) hx hb dX5_rubbed_187 hl (k := 4) rfl (rn_inc v 1) (by decide) rfl (fun ls hl => ?_)
    refine lv_goto (tgt := 66) hx hb dX5_rubbed_190 (by decide) ?_
    exact ih66 (v + 1) ls ⟨by omega, lv_sub hl [0, 5, 2, 1, 6, 7, 8, 9, 10, 11] rfl⟩ (by omega)
  refine lv_aload_n hx hb dX5_rubbed_90 rfl (lv_at hl 7 rfl) ?_
  refine va_get (D := (dC, dI)) (ci := 5) (v := .ref mi) (C := RX5) (T := TX5) (N := 15) hx hb hts hiX5 hown hK hP 0 rfl rfl 6 (by decide) (hts (.fieldLink RX5 22 "RestRegistersModel" "items" "[J") (by decide +kernel)) (fun _ h9 => h9) rfl dX5_rubbed_91 ?_
  refine lv_bipush (v := (nI 24)) hx hb dX5_rubbed_94 (by decide) ?_
  refine lv_iload_n hx hb dX5_rubbed_96 rfl (lv_at hl 8 rfl) ?_
  refine rn_imul hx hb dX5_rubbed_97 ?_
  refine lv_iload_n hx hb dX5_rubbed_98 rfl (lv_at hl 10 rfl) ?_
  refine rn_iadd hx hb dX5_rubbed_99 ?_
  refine lv_iload hx hb dX5_rubbed_100 (lv_at hl 0 rfl) ?_
  refine rn_iadd hx hb dX5_rubbed_102 ?_
  refine rn_lald hx hb hK hP 4 1 rfl rfl (i := 24 * sh + a + k) (by omega) (by decide) (v := (It (24 * sh + a + k))) rfl dX5_rubbed_103 ?_
  refine rr_topl (y := rwI It sh (a + k)) (congrArg It (by omega)) ?_
  refine lv_lstore (lv' := [(12, .long (rwI It sh (a + k))), (11, .int (nI k)), (10, .int (bi (ftB (wdB Bw) (rwI It sh) a v k))), (9, .int (nI v)), (8, .int (nI (rgB Bw))), (7, .int (rbL (Bw 0) (wdB Bw) (rwI It sh) a v)), (6, .int (nI (rbC (Bw 0) (wdB Bw) (rwI It sh) a v))), (5, .int (nI 0)), (0, .ref m0), (1, .int (nI sh)), (2, .int wl), (3, .int (nI a)), (4, .int (nI 1))]) hx hb dX5_rubbed_104 hl (by decide) rfl (fun ls hl => ?_)
  refine lv_iload hx hb dX5_rubbed_106 (lv_at hl 2 rfl) ?_
  refine rb_if_eq (tgt := 144) hx hb dX5_rubbed_108 (by decide) (fun c108 => ?_) (fun c108 => ?_)
  · skip
    refine lv_iconst (v := (nI 0)) hx hb dX5_rubbed_144 (by decide) ?_
    refine rr_top (y := bi (ftB (wdB Bw) (rwI It sh) a v (k + 1))) (by rw [ftB]; first | (rw [c108, decide_eq_true (show rwI It sh (a + k) = -1 from cmp_eq.mp c117)]; rfl) | (rw [c108, decide_eq_true (show rwI It sh (a + k) = (nI (v % wdB Bw k)).toInt64 from cmp_eq.mp c137), Bool.or_true]; rfl) | (rw [c108, decide_eq_false (show ¬ rwI It sh (a + k) = -1 from fun q => c117 (cmp_eq.mpr q)), decide_eq_false (show ¬ rwI It sh (a + k) = (nI (v % wdB Bw k)).toInt64 from fun q => c137 (cmp_eq.mpr q))]; rfl) | (rw [c108]; rfl)) ?_
    refine lv_istore (lv' := [(10, .int (bi (ftB (wdB Bw) (rwI It sh) a v (k + 1)))), (12, .long (rwI It sh (a + k))), (11, .int (nI k)), (9, .int (nI v)), (8, .int (nI (rgB Bw))), (7, .int (rbL (Bw 0) (wdB Bw) (rwI It sh) a v)), (6, .int (nI (rbC (Bw 0) (wdB Bw) (rwI It sh) a v))), (5, .int (nI 0)), (0, .ref m0), (1, .int (nI sh)), (2, .int wl), (3, .int (nI a)), (4, .int (nI 1))]) hx hb dX5_rubbed_145 hl (by decide) rfl (fun ls hl => ?_)
    refine lv_iinc (v := (nI (k + 1))) (lv' := [(11, .int (nI (k + 1))), (10, .int (bi (ftB (wdB Bw) (rwI It sh) a v (k + 1)))), (12, .long (rwI It sh (a + k))), (9, .int (nI v)), (8, .int (nI (rgB Bw))), (7, .int (rbL (Bw 0) (wdB Bw) (rwI It sh) a v)), (6, .int (nI (rbC (Bw 0) (wdB Bw) (rwI It sh) a v))), (5, .int (nI 0)), (0, .ref m0), (1, .int (nI sh)), (2, .int wl), (3, .int (nI a)), (4, .int (nI 1))]) hx hb dX5_rubbed_147 hl (k := 2) rfl (rn_inc k 1) (by decide) rfl (fun ls hl => ?_)
    refine lv_goto (tgt := 79) hx hb dX5_rubbed_150 (by decide) ?_
    exact ih79 (k + 1) ls ⟨by omega, lv_sub hl [0, 1, 3, 4, 5, 6, 7, 8, 9, 10, 11, 12] rfl⟩ (by omega)
  refine lv_lload hx hb dX5_rubbed_111 (lv_at hl 0 rfl) ?_
  refine lv_ldc2 (v := (-1)) hx hb hown (hts (.constantLong RX5 189 (-1)) (by decide +kernel)) dX5_rubbed_113 ?_
  refine W.lcmp hx hb dX5_rubbed_116 ?_
  refine lv_if_eq (tgt := 140) hx hb dX5_rubbed_117 (by decide) (fun c117 => ?_) (fun c117 => ?_)
  · skip
    refine lv_iconst (v := (nI 1)) hx hb dX5_rubbed_140 (by decide) ?_
    refine lv_goto (tgt := 145) hx hb dX5_rubbed_141 (by decide) ?_
    refine rr_top (y := bi (ftB (wdB Bw) (rwI It sh) a v (k + 1))) (by rw [ftB]; first | (rw [c108, decide_eq_true (show rwI It sh (a + k) = -1 from cmp_eq.mp c117)]; rfl) | (rw [c108, decide_eq_true (show rwI It sh (a + k) = (nI (v % wdB Bw k)).toInt64 from cmp_eq.mp c137), Bool.or_true]; rfl) | (rw [c108, decide_eq_false (show ¬ rwI It sh (a + k) = -1 from fun q => c117 (cmp_eq.mpr q)), decide_eq_false (show ¬ rwI It sh (a + k) = (nI (v % wdB Bw k)).toInt64 from fun q => c137 (cmp_eq.mpr q))]; rfl) | (rw [c108]; rfl)) ?_
    refine lv_istore (lv' := [(10, .int (bi (ftB (wdB Bw) (rwI It sh) a v (k + 1)))), (12, .long (rwI It sh (a + k))), (11, .int (nI k)), (9, .int (nI v)), (8, .int (nI (rgB Bw))), (7, .int (rbL (Bw 0) (wdB Bw) (rwI It sh) a v)), (6, .int (nI (rbC (Bw 0) (wdB Bw) (rwI It sh) a v))), (5, .int (nI 0)), (0, .ref m0), (1, .int (nI sh)), (2, .int wl), (3, .int (nI a)), (4, .int (nI 1))]) hx hb dX5_rubbed_145 hl (by decide) rfl (fun ls hl => ?_)
    refine lv_iinc (v := (nI (k + 1))) (lv' := [(11, .int (nI (k + 1))), (10, .int (bi (ftB (wdB Bw) (rwI It sh) a v (k + 1)))), (12, .long (rwI It sh (a + k))), (9, .int (nI v)), (8, .int (nI (rgB Bw))), (7, .int (rbL (Bw 0) (wdB Bw) (rwI It sh) a v)), (6, .int (nI (rbC (Bw 0) (wdB Bw) (rwI It sh) a v))), (5, .int (nI 0)), (0, .ref m0), (1, .int (nI sh)), (2, .int wl), (3, .int (nI a)), (4, .int (nI 1))]) hx hb dX5_rubbed_147 hl (k := 2) rfl (rn_inc k 1) (by decide) rfl (fun ls hl => ?_)
    refine lv_goto (tgt := 79) hx hb dX5_rubbed_150 (by decide) ?_
    exact ih79 (k + 1) ls ⟨by omega, lv_sub hl [0, 1, 3, 4, 5, 6, 7, 8, 9, 10, 11, 12] rfl⟩ (by omega)
  refine lv_lload hx hb dX5_rubbed_120 (lv_at hl 0 rfl) ?_
  refine lv_iload hx hb dX5_rubbed_122 (lv_at hl 3 rfl) ?_
  refine lv_aload_n hx hb dX5_rubbed_124 rfl (lv_at hl 8 rfl) ?_
  refine va_get (D := (dC, dI)) (ci := 5) (v := .ref mw) (C := RX5) (T := TX5) (N := 15) hx hb hts hiX5 hown hK hP 0 rfl rfl 0 (by decide) (hts (.fieldLink RX5 7 "RestRegistersModel" "w" "[I") (by decide +kernel)) (fun _ h9 => h9) rfl dX5_rubbed_125 ?_
  refine lv_bipush (v := (nI 8)) hx hb dX5_rubbed_128 (by decide) ?_
  refine lv_iload hx hb dX5_rubbed_130 (lv_at hl 1 rfl) ?_
  refine rn_iadd hx hb dX5_rubbed_132 ?_
  refine rn_iald hx hb hK hP 1 0 rfl rfl (i := 8 + k) (by omega) (by decide) (v := (nI (wdB Bw k))) rfl dX5_rubbed_133 ?_
  have hv133 := hm.wd k (by omega)
  refine rn_irem hx hb dX5_rubbed_134 (by omega) (by omega) (by omega) ?_
  refine lv_i2l hx hb dX5_rubbed_135 rfl ?_
  refine W.lcmp hx hb dX5_rubbed_136 ?_
  refine lv_if_ne (tgt := 144) hx hb dX5_rubbed_137 (by decide) (fun c137 => ?_) (fun c137 => ?_)
  · skip
    refine lv_iconst (v := (nI 0)) hx hb dX5_rubbed_144 (by decide) ?_
    refine rr_top (y := bi (ftB (wdB Bw) (rwI It sh) a v (k + 1))) (by rw [ftB]; first | (rw [c108, decide_eq_true (show rwI It sh (a + k) = -1 from cmp_eq.mp c117)]; rfl) | (rw [c108, decide_eq_true (show rwI It sh (a + k) = (nI (v % wdB Bw k)).toInt64 from cmp_eq.mp c137), Bool.or_true]; rfl) | (rw [c108, decide_eq_false (show ¬ rwI It sh (a + k) = -1 from fun q => c117 (cmp_eq.mpr q)), decide_eq_false (show ¬ rwI It sh (a + k) = (nI (v % wdB Bw k)).toInt64 from fun q => c137 (cmp_eq.mpr q))]; rfl) | (rw [c108]; rfl)) ?_
    refine lv_istore (lv' := [(10, .int (bi (ftB (wdB Bw) (rwI It sh) a v (k + 1)))), (12, .long (rwI It sh (a + k))), (11, .int (nI k)), (9, .int (nI v)), (8, .int (nI (rgB Bw))), (7, .int (rbL (Bw 0) (wdB Bw) (rwI It sh) a v)), (6, .int (nI (rbC (Bw 0) (wdB Bw) (rwI It sh) a v))), (5, .int (nI 0)), (0, .ref m0), (1, .int (nI sh)), (2, .int wl), (3, .int (nI a)), (4, .int (nI 1))]) hx hb dX5_rubbed_145 hl (by decide) rfl (fun ls hl => ?_)
    refine lv_iinc (v := (nI (k + 1))) (lv' := [(11, .int (nI (k + 1))), (10, .int (bi (ftB (wdB Bw) (rwI It sh) a v (k + 1)))), (12, .long (rwI It sh (a + k))), (9, .int (nI v)), (8, .int (nI (rgB Bw))), (7, .int (rbL (Bw 0) (wdB Bw) (rwI It sh) a v)), (6, .int (nI (rbC (Bw 0) (wdB Bw) (rwI It sh) a v))), (5, .int (nI 0)), (0, .ref m0), (1, .int (nI sh)), (2, .int wl), (3, .int (nI a)), (4, .int (nI 1))]) hx hb dX5_rubbed_147 hl (k := 2) rfl (rn_inc k 1) (by decide) rfl (fun ls hl => ?_)
    refine lv_goto (tgt := 79) hx hb dX5_rubbed_150 (by decide) ?_
    exact ih79 (k + 1) ls ⟨by omega, lv_sub hl [0, 1, 3, 4, 5, 6, 7, 8, 9, 10, 11, 12] rfl⟩ (by omega)
  refine lv_iconst (v := (nI 1)) hx hb dX5_rubbed_140 (by decide) ?_
  refine lv_goto (tgt := 145) hx hb dX5_rubbed_141 (by decide) ?_
  refine rr_top (y := bi (ftB (wdB Bw) (rwI It sh) a v (k + 1))) (by rw [ftB]; first | (rw [c108, decide_eq_true (show rwI It sh (a + k) = -1 from cmp_eq.mp c117)]; rfl) | (rw [c108, decide_eq_true (show rwI It sh (a + k) = (nI (v % wdB Bw k)).toInt64 from cmp_eq.mp c137), Bool.or_true]; rfl) | (rw [c108, decide_eq_false (show ¬ rwI It sh (a + k) = -1 from fun q => c117 (cmp_eq.mpr q)), decide_eq_false (show ¬ rwI It sh (a + k) = (nI (v % wdB Bw k)).toInt64 from fun q => c137 (cmp_eq.mpr q))]; rfl) | (rw [c108]; rfl)) ?_
  refine lv_istore (lv' := [(10, .int (bi (ftB (wdB Bw) (rwI It sh) a v (k + 1)))), (12, .long (rwI It sh (a + k))), (11, .int (nI k)), (9, .int (nI v)), (8, .int (nI (rgB Bw))), (7, .int (rbL (Bw 0) (wdB Bw) (rwI It sh) a v)), (6, .int (nI (rbC (Bw 0) (wdB Bw) (rwI It sh) a v))), (5, .int (nI 0)), (0, .ref m0), (1, .int (nI sh)), (2, .int wl), (3, .int (nI a)), (4, .int (nI 1))]) hx hb dX5_rubbed_145 hl (by decide) rfl (fun ls hl => ?_)
  refine lv_iinc (v := (nI (k + 1))) (lv' := [(11, .int (nI (k + 1))), (10, .int (bi (ftB (wdB Bw) (rwI It sh) a v (k + 1)))), (12, .long (rwI It sh (a + k))), (9, .int (nI v)), (8, .int (nI (rgB Bw))), (7, .int (rbL (Bw 0) (wdB Bw) (rwI It sh) a v)), (6, .int (nI (rbC (Bw 0) (wdB Bw) (rwI It sh) a v))), (5, .int (nI 0)), (0, .ref m0), (1, .int (nI sh)), (2, .int wl), (3, .int (nI a)), (4, .int (nI 1))]) hx hb dX5_rubbed_147 hl (k := 2) rfl (rn_inc k 1) (by decide) rfl (fun ls hl => ?_)
  refine lv_goto (tgt := 79) hx hb dX5_rubbed_150 (by decide) ?_
  exact ih79 (k + 1) ls ⟨by omega, lv_sub hl [0, 1, 3, 4, 5, 6, 7, 8, 9, 10, 11, 12] rfl⟩ (by omega)
set_option maxHeartbeats 4000000 in
set_option maxRecDepth 100000 in
theorem c_X5_rubbed_r (l : Launch) (dC : Nat → ClassId) (dI : Nat → Nat → Nat) (cI cJ cS : ClassId) (m0 mw mt ml mz mi mr md mh : Nat) (im : Bool) (tl at0 st0 nu rm rh : Nat) (Bw : Nat → Nat) (Th : Nat → Bool) (Ln Sz : Nat → Nat) (It : Nat → Int64) (sh : Nat) (wl i u : Int32) (hm : mOk Bw) (hz : ∀ j, j < 4 → Sz j ≤ 24) (hl3 : ∀ j, j < 4 → Ln j ≤ 3) (hs4 : sh < 4) (hwl : inb wl 4 = true) (hu : inb u 2 = true) (href : ¬ refI (Th sh) (Ln sh) (Sz sh) wl i (nI (Bw 0)) = nI 0) : Met l yX5_rubbed wsX5_rubbed ({ frames := 2, cells := 0, slots := 0, locals := 45 }) (va_Pc [.ref m0, .int (nI sh), .int wl, .int i, .int u] (rB (dC, dI) vwCl [(m0, .inr (5, [.ref mw, .int (bi im), .ref mt, .int (nI tl), .ref ml, .ref mz, .ref mi, .ref mr, .int (nI at0), .int (nI st0), .int (nI nu), .int (nI rm), .int (nI rh), .ref md, .ref mh])), (mw, .inl (cI, 480, .inl (nA Bw))), (ml, .inl (cI, 4, .inl (laF Th Ln))), (mz, .inl (cI, 4, .inl (nA Sz))), (mi, .inl (cJ, 96, .inr (.inl It)))] (tyz cI cJ cS))) (QcRead (refI (Th sh) (Ln sh) (Sz sh) wl i (nI (Bw 0)))) 0 0 (fun _ => False) := by
  refine Met.ofW (cc := cX5_rubbed) (maxL := 14) (ret := (some .int)) (by decide) rfl ?_
  intro p e s m args below meth c s₁ B hml hv
  obtain ⟨rfl, hP, hKK⟩ := hv
  have hK := hKK.1
  have hx := B.exec
  have hb := B.bytes
  have hr := B.returns
  have hts := atoms_spec (ws := wsX5_rubbed) B.pre
  have hown : s.vm.findClass RX5 = some m.cls := findClass_of_methodNamed B.named
  have hlocks := B.notSynchronized
  have hiX5 : ∀ w ∈ wsX50, w ∈ wsX5_rubbed := by decide +kernel
  have hl := lv_entry ([.ref m0, .int (nI sh), .int wl, .int i, .int u]) (n := 14) (Nat.le_of_ble_eq_true rfl)
  rw [lg_entry_eq]
  generalize (lg_sl ([.ref m0, .int (nI sh), .int wl, .int i, .int u]) ++ List.replicate (14 - (lg_sl ([.ref m0, .int (nI sh), .int wl, .int i, .int u])).length) Slot.unset).toArray = ls at hl ⊢
  have hl : lv_has ls 14 [(0, .ref m0), (1, .int (nI sh)), (2, .int wl), (3, .int i), (4, .int u)] := hl
  have hn6 := hm.n
  refine lv_iload_n hx hb dX5_rubbed_0 rfl (lv_at hl 1 rfl) ?_
  refine rr_callR (va_runS (As := [.int (nI sh)]) (rest := []) ⟨hx, hb, hml, hown, hts⟩ (c_X5_isRegister l (nI sh) ) (va_cwS 1 hts gX5_rubbed_X5_isRegister rfl rfl rfl (by decide +kernel) ⟨Nat.le_of_ble_eq_true rfl, Nat.le_of_ble_eq_true rfl⟩) rr_preT rfl rfl hl.1 rfl (lv_room (Nat.le_of_ble_eq_true rfl)) dX5_rubbed_1 ⟨Nat.zero_le _, Nat.zero_le _⟩) ?_
  refine rr_top (y := bi true) (congrArg bi (inb_lt (by omega) (by omega))) ?_
  refine rb_if_eq (tgt := 25) hx hb dX5_rubbed_4 (by decide) (fun c4 => ?_) (fun c4 => ?_)
  · exact absurd c4 (by decide)
  refine lv_iload_n hx hb dX5_rubbed_7 rfl (lv_at hl 2 rfl) ?_
  refine rr_callR (va_runS (As := [.int wl]) (rest := []) ⟨hx, hb, hml, hown, hts⟩ (c_X5_isLane l wl ) (va_cwS 1 hts gX5_rubbed_X5_isLane rfl rfl rfl (by decide +kernel) ⟨Nat.le_of_ble_eq_true rfl, Nat.le_of_ble_eq_true rfl⟩) rr_preT rfl rfl hl.1 rfl (lv_room (Nat.le_of_ble_eq_true rfl)) dX5_rubbed_8 ⟨Nat.zero_le _, Nat.zero_le _⟩) ?_
  refine rr_top (y := (bi true)) (congrArg bi hwl) ?_
  refine rb_if_eq (tgt := 25) hx hb dX5_rubbed_11 (by decide) (fun c11 => ?_) (fun c11 => ?_)
  · exact absurd c11 (by decide)
  refine lv_iload hx hb dX5_rubbed_14 (lv_at hl 4 rfl) ?_
  refine lv_i2l hx hb dX5_rubbed_16 rfl ?_
  refine lv_lconst (v := 0) hx hb dX5_rubbed_17 (by decide) ?_
  refine lv_lconst (v := 1) hx hb dX5_rubbed_18 (by decide) ?_
  refine rr_callR (va_runS (As := [.long u.toInt64, .long 0, .long 1]) (rest := []) ⟨hx, hb, hml, hown, hts⟩ (c_X5_in l u.toInt64 0 1 ) (va_cwS 3 hts gX5_rubbed_X5_in rfl rfl rfl (by decide +kernel) ⟨Nat.le_of_ble_eq_true rfl, Nat.le_of_ble_eq_true rfl⟩) rr_preT rfl rfl hl.1 rfl (lv_room (Nat.le_of_ble_eq_true rfl)) dX5_rubbed_19 ⟨Nat.zero_le _, Nat.zero_le _⟩) ?_
  refine rr_top (y := (bi true)) (congrArg bi ((inL_lit (by decide)).trans hu)) ?_
  refine rb_if_ne (tgt := 27) hx hb dX5_rubbed_22 (by decide) (fun c22 => ?_) (fun c22 => ?_)
  rotate_left
  · exact absurd c22 (by decide)
  refine lv_aload_n hx hb dX5_rubbed_27 rfl (lv_at hl 0 rfl) ?_
  refine lv_iload_n hx hb dX5_rubbed_28 rfl (lv_at hl 1 rfl) ?_
  refine lv_iload_n hx hb dX5_rubbed_29 rfl (lv_at hl 2 rfl) ?_
  refine lv_iload_n hx hb dX5_rubbed_30 rfl (lv_at hl 3 rfl) ?_
  refine lv_aload_n hx hb dX5_rubbed_31 rfl (lv_at hl 0 rfl) ?_
  refine va_get (D := (dC, dI)) (ci := 5) (v := .ref mw) (C := RX5) (T := TX5) (N := 15) hx hb hts hiX5 hown hK hP 0 rfl rfl 0 (by decide) (hts (.fieldLink RX5 7 "RestRegistersModel" "w" "[I") (by decide +kernel)) (fun _ h9 => h9) rfl dX5_rubbed_32 ?_
  refine lv_iconst (v := (nI 0)) hx hb dX5_rubbed_35 (by decide) ?_
  refine rn_iald hx hb hK hP 1 0 rfl rfl (i := 0) (by omega) (by decide) (v := (nI (Bw 0))) rfl dX5_rubbed_36 ?_
  refine rr_callR (va_runV (As := [.int (nI sh), .int wl, .int i, .int (nI (Bw 0))]) (rest := []) ⟨hx, hb, hml, hown, hts⟩ (c_X5_against l dC dI cI cJ cS m0 mw mt ml mz mi mr md mh im tl at0 st0 nu rm rh Th Ln Sz sh wl i (nI (Bw 0)) (by first | assumption | omega) (by first | assumption | omega) (by first | assumption | omega)) (cwV 4 hts gX5_rubbed_X5_against rfl rfl rfl (by decide +kernel) ⟨Nat.le_of_ble_eq_true rfl, Nat.le_of_ble_eq_true rfl⟩) (rr_preV hKK (hP.sub [0, 2, 3] rfl) rfl rfl) rfl rfl hl.1 rfl (lv_room (Nat.le_of_ble_eq_true rfl)) dX5_rubbed_37 ⟨Nat.zero_le _, Nat.zero_le _⟩) ?_
  refine lv_istore (lv' := [(5, .int (refI (Th sh) (Ln sh) (Sz sh) wl i (nI (Bw 0)))), (0, .ref m0), (1, .int (nI sh)), (2, .int wl), (3, .int i), (4, .int u)]) hx hb dX5_rubbed_40 hl (by decide) rfl (fun ls hl => ?_)
  refine lv_iload hx hb dX5_rubbed_42 (lv_at hl 0 rfl) ?_
  refine lv_if_ge (tgt := 50) hx hb dX5_rubbed_44 (by decide) (fun c44 => ?_) (fun c44 => ?_)
  · skip
    exact absurd c44 (refI_neg href)
  refine lv_iload hx hb dX5_rubbed_47 (lv_at hl 0 rfl) ?_
  exact rr_iret hx hb hr hlocks dX5_rubbed_49 (rfl)
set_option maxHeartbeats 4000000 in
set_option maxRecDepth 100000 in
theorem c_X5_rubbed_b (l : Launch) (dC : Nat → ClassId) (dI : Nat → Nat → Nat) (cI cJ cS : ClassId) (m0 mw mt ml mz mi mr md mh : Nat) (im : Bool) (tl at0 st0 nu rm rh : Nat) (Bw : Nat → Nat) (x y i u : Int32) (hm : mOk Bw) (hbad : (inb x 4 && inb y 4 && inb u 2) = false) : Met l yX5_rubbed wsX5_rubbed ({ frames := 2, cells := 0, slots := 0, locals := 45 }) (va_Pc [.ref m0, .int x, .int y, .int i, .int u] (rB (dC, dI) vwCl [(m0, .inr (5, [.ref mw, .int (bi im), .ref mt, .int (nI tl), .ref ml, .ref mz, .ref mi, .ref mr, .int (nI at0), .int (nI st0), .int (nI nu), .int (nI rm), .int (nI rh), .ref md, .ref mh])), (mw, .inl (cI, 480, .inl (nA Bw)))] (tyz cI cJ cS))) (QcRead (-1)) 0 0 (fun _ => False) := by
  refine Met.ofW (cc := cX5_rubbed) (maxL := 14) (ret := (some .int)) (by decide) rfl ?_
  intro p e s m args below meth c s₁ B hml hv
  obtain ⟨rfl, hP, hKK⟩ := hv
  have hK := hKK.1
  have hx := B.exec
  have hb := B.bytes
  have hr := B.returns
  have hts := atoms_spec (ws := wsX5_rubbed) B.pre
  have hown : s.vm.findClass RX5 = some m.cls := findClass_of_methodNamed B.named
  have hlocks := B.notSynchronized
  have hiX5 : ∀ w ∈ wsX50, w ∈ wsX5_rubbed := by decide +kernel
  have hl := lv_entry ([.ref m0, .int x, .int y, .int i, .int u]) (n := 14) (Nat.le_of_ble_eq_true rfl)
  rw [lg_entry_eq]
  generalize (lg_sl ([.ref m0, .int x, .int y, .int i, .int u]) ++ List.replicate (14 - (lg_sl ([.ref m0, .int x, .int y, .int i, .int u])).length) Slot.unset).toArray = ls at hl ⊢
  have hl : lv_has ls 14 [(0, .ref m0), (1, .int x), (2, .int y), (3, .int i), (4, .int u)] := hl
  have hn6 := hm.n
  refine lv_iload_n hx hb dX5_rubbed_0 rfl (lv_at hl 1 rfl) ?_
  refine rr_callR (va_runS (As := [.int x]) (rest := []) ⟨hx, hb, hml, hown, hts⟩ (c_X5_isRegister l x ) (va_cwS 1 hts gX5_rubbed_X5_isRegister rfl rfl rfl (by decide +kernel) ⟨Nat.le_of_ble_eq_true rfl, Nat.le_of_ble_eq_true rfl⟩) rr_preT rfl rfl hl.1 rfl (lv_room (Nat.le_of_ble_eq_true rfl)) dX5_rubbed_1 ⟨Nat.zero_le _, Nat.zero_le _⟩) ?_
  refine rb_if_eq (tgt := 25) hx hb dX5_rubbed_4 (by decide) (fun c4 => ?_) (fun c4 => ?_)
  · skip
    refine lv_iconst (v := (-1)) hx hb dX5_rubbed_25 (by decide) ?_
    exact rr_iret hx hb hr hlocks dX5_rubbed_26 (rfl)
  refine lv_iload_n hx hb dX5_rubbed_7 rfl (lv_at hl 2 rfl) ?_
  refine rr_callR (va_runS (As := [.int y]) (rest := []) ⟨hx, hb, hml, hown, hts⟩ (c_X5_isLane l y ) (va_cwS 1 hts gX5_rubbed_X5_isLane rfl rfl rfl (by decide +kernel) ⟨Nat.le_of_ble_eq_true rfl, Nat.le_of_ble_eq_true rfl⟩) rr_preT rfl rfl hl.1 rfl (lv_room (Nat.le_of_ble_eq_true rfl)) dX5_rubbed_8 ⟨Nat.zero_le _, Nat.zero_le _⟩) ?_
  refine rb_if_eq (tgt := 25) hx hb dX5_rubbed_11 (by decide) (fun c11 => ?_) (fun c11 => ?_)
  · skip
    refine lv_iconst (v := (-1)) hx hb dX5_rubbed_25 (by decide) ?_
    exact rr_iret hx hb hr hlocks dX5_rubbed_26 (rfl)
  refine lv_iload hx hb dX5_rubbed_14 (lv_at hl 4 rfl) ?_
  refine lv_i2l hx hb dX5_rubbed_16 rfl ?_
  refine lv_lconst (v := 0) hx hb dX5_rubbed_17 (by decide) ?_
  refine lv_lconst (v := 1) hx hb dX5_rubbed_18 (by decide) ?_
  refine rr_callR (va_runS (As := [.long u.toInt64, .long 0, .long 1]) (rest := []) ⟨hx, hb, hml, hown, hts⟩ (c_X5_in l u.toInt64 0 1 ) (va_cwS 3 hts gX5_rubbed_X5_in rfl rfl rfl (by decide +kernel) ⟨Nat.le_of_ble_eq_true rfl, Nat.le_of_ble_eq_true rfl⟩) rr_preT rfl rfl hl.1 rfl (lv_room (Nat.le_of_ble_eq_true rfl)) dX5_rubbed_19 ⟨Nat.zero_le _, Nat.zero_le _⟩) ?_
  refine rr_top (y := bi (inb u 2)) (congrArg bi (inL_lit (by decide))) ?_
  refine rb_if_ne (tgt := 27) hx hb dX5_rubbed_22 (by decide) (fun c22 => ?_) (fun c22 => ?_)
  · skip
    exact absurd hbad (by rw [c4, c11, c22]; decide)
  refine lv_iconst (v := (-1)) hx hb dX5_rubbed_25 (by decide) ?_
  exact rr_iret hx hb hr hlocks dX5_rubbed_26 (rfl)
set_option maxHeartbeats 4000000 in
set_option maxRecDepth 100000 in
theorem c_X5_film_g (l : Launch) (dC : Nat → ClassId) (dI : Nat → Nat → Nat) (cI cJ cS : ClassId) (sz : Nat) (m0 mw mt ml mz mi mr md mh : Nat) (im : Bool) (tl at0 st0 nu rm rh : Nat) (Bw : Nat → Nat) (Th : Nat → Bool) (Ln Sz : Nat → Nat) (It : Nat → Int64) (r sh a : Nat) (wl : Int32) (hm : mOk Bw) (hz : ∀ j, j < 4 → Sz j ≤ 24) (hl3 : ∀ j, j < 4 → Ln j ≤ 3) (hr4 : r < 4) (hs4 : sh < 4) (hwl : inb wl 4 = true) (href : refI (Th sh) (Ln sh) (Sz sh) wl (nI a) (nI (Bw 0)) = nI 0) (has : a + Bw 0 ≤ 24) : Met l yX5_film wsX5_film ({ frames := 2, cells := 0, slots := 0, locals := 45 }) (va_Pc [.ref m0, .int (nI r), .int (nI sh), .int wl, .int (nI a)] (rW (dC, dI) vwCl [(m0, .inr (5, [.ref mw, .int (bi im), .ref mt, .int (nI tl), .ref ml, .ref mz, .ref mi, .ref mr, .int (nI at0), .int (nI st0), .int (nI nu), .int (nI rm), .int (nI rh), .ref md, .ref mh])), (mw, .inl (cI, 480, .inl (nA Bw))), (ml, .inl (cI, 4, .inl (laF Th Ln))), (mz, .inl (cI, 4, .inl (nA Sz))), (mi, .inl (cJ, 96, .inr (.inl It)))] (tyz cI cJ cS) sz)) (qI (nI (Bw 0)) (dC, dI) vwCl [(m0, .inr (5, [.ref mw, .int (bi im), .ref mt, .int (nI tl), .ref ml, .ref mz, .ref mi, .ref mr, .int (nI at0), .int (nI st0), .int (nI nu), .int (nI rm), .int (nI rh), .ref md, .ref mh])), (mw, .inl (cI, 480, .inl (nA Bw))), (ml, .inl (cI, 4, .inl (laF Th Ln))), (mz, .inl (cI, 4, .inl (nA Sz))), (mi, .inl (cJ, 96, .inr (.inl (flI It (24 * sh + a) (fun k => (nI (rsB Bw (r * 6 + k))).toInt64) (Bw 0)))))] (va_A [(m0, .inr (5, [.ref mw, .int (bi im), .ref mt, .int (nI tl), .ref ml, .ref mz, .ref mi, .ref mr, .int (nI at0), .int (nI st0), .int (nI nu), .int (nI rm), .int (nI rh), .ref md, .ref mh])), (mw, .inl (cI, 480, .inl (nA Bw))), (ml, .inl (cI, 4, .inl (laF Th Ln))), (mz, .inl (cI, 4, .inl (nA Sz))), (mi, .inl (cJ, 96, .inr (.inl It)))] sz)) 0 0 (va_A [(m0, .inr (5, [.ref mw, .int (bi im), .ref mt, .int (nI tl), .ref ml, .ref mz, .ref mi, .ref mr, .int (nI at0), .int (nI st0), .int (nI nu), .int (nI rm), .int (nI rh), .ref md, .ref mh])), (mw, .inl (cI, 480, .inl (nA Bw))), (ml, .inl (cI, 4, .inl (laF Th Ln))), (mz, .inl (cI, 4, .inl (nA Sz))), (mi, .inl (cJ, 96, .inr (.inl It)))] sz) := by
  refine Met.ofW (cc := cX5_film) (maxL := 7) (ret := (some .int)) (by decide) rfl ?_
  intro p e s m args below meth c s₁ B hml hv
  obtain ⟨rfl, hsz, hP, hKK, hD0⟩ := hv
  have hK := hKK.1
  have hx := B.exec
  have hb := B.bytes
  have hr := B.returns
  have hts := atoms_spec (ws := wsX5_film) B.pre
  have hown : s.vm.findClass RX5 = some m.cls := findClass_of_methodNamed B.named
  have hlocks := B.notSynchronized
  subst hsz
  have hD := hD0.self (sz := s.heap.size)
  generalize hAe : va_A [(m0, .inr (5, [.ref mw, .int (bi im), .ref mt, .int (nI tl), .ref ml, .ref mz, .ref mi, .ref mr, .int (nI at0), .int (nI st0), .int (nI nu), .int (nI rm), .int (nI rh), .ref md, .ref mh])), (mw, .inl (cI, 480, .inl (nA Bw))), (ml, .inl (cI, 4, .inl (laF Th Ln))), (mz, .inl (cI, 4, .inl (nA Sz))), (mi, .inl (cJ, 96, .inr (.inl It)))] s.heap.size = A at hD ⊢
  have hA : ∀ q : Nat, s.heap.size ≤ q → A q := fun q h => by rw [← hAe]; exact Or.inr h
  have hS : va_S A s.heap s.heap [] := va_S.rf
  have hP : va_P (dC, dI) vwCl [(m0, .inr (5, [.ref mw, .int (bi im), .ref mt, .int (nI tl), .ref ml, .ref mz, .ref mi, .ref mr, .int (nI at0), .int (nI st0), .int (nI nu), .int (nI rm), .int (nI rh), .ref md, .ref mh])), (mw, .inl (cI, 480, .inl (nA Bw))), (ml, .inl (cI, 4, .inl (laF Th Ln))), (mz, .inl (cI, 4, .inl (nA Sz))), (mi, .inl (cJ, 96, .inr (.inl It)))] s.heap := hP
  have hiX5 : ∀ w ∈ wsX50, w ∈ wsX5_film := by decide +kernel
  have hl := lv_entry ([.ref m0, .int (nI r), .int (nI sh), .int wl, .int (nI a)]) (n := 7) (Nat.le_of_ble_eq_true rfl)
  rw [lg_entry_eq]
  generalize (lg_sl ([.ref m0, .int (nI r), .int (nI sh), .int wl, .int (nI a)]) ++ List.replicate (7 - (lg_sl ([.ref m0, .int (nI r), .int (nI sh), .int wl, .int (nI a)])).length) Slot.unset).toArray = ls at hl ⊢
  have hl : lv_has ls 7 [(0, .ref m0), (1, .int (nI r)), (2, .int (nI sh)), (3, .int wl), (4, .int (nI a))] := hl
  have hn6 := hm.n
  refine lv_iload_n hx hb dX5_film_0 rfl (lv_at hl 1 rfl) ?_
  refine rr_callR (va_runS (As := [.int (nI r)]) (rest := []) ⟨hx, hb, hml, hown, hts⟩ (c_X5_isRegister l (nI r) ) (va_cwS 1 hts gX5_film_X5_isRegister rfl rfl rfl (by decide +kernel) ⟨Nat.le_of_ble_eq_true rfl, Nat.le_of_ble_eq_true rfl⟩) rr_preT rfl rfl hl.1 rfl (lv_room (Nat.le_of_ble_eq_true rfl)) dX5_film_1 ⟨Nat.zero_le _, Nat.zero_le _⟩) ?_
  refine rr_top (y := bi true) (congrArg bi (inb_lt (by omega) (by omega))) ?_
  refine rb_if_eq (tgt := 21) hx hb dX5_film_4 (by decide) (fun c4 => ?_) (fun c4 => ?_)
  · exact absurd c4 (by decide)
  refine lv_iload_n hx hb dX5_film_7 rfl (lv_at hl 2 rfl) ?_
  refine rr_callR (va_runS (As := [.int (nI sh)]) (rest := []) ⟨hx, hb, hml, hown, hts⟩ (c_X5_isRegister l (nI sh) ) (va_cwS 1 hts gX5_film_X5_isRegister rfl rfl rfl (by decide +kernel) ⟨Nat.le_of_ble_eq_true rfl, Nat.le_of_ble_eq_true rfl⟩) rr_preT rfl rfl hl.1 rfl (lv_room (Nat.le_of_ble_eq_true rfl)) dX5_film_8 ⟨Nat.zero_le _, Nat.zero_le _⟩) ?_
  refine rr_top (y := bi true) (congrArg bi (inb_lt (by omega) (by omega))) ?_
  refine rb_if_eq (tgt := 21) hx hb dX5_film_11 (by decide) (fun c11 => ?_) (fun c11 => ?_)
  · exact absurd c11 (by decide)
  refine lv_iload_n hx hb dX5_film_14 rfl (lv_at hl 3 rfl) ?_
  refine rr_callR (va_runS (As := [.int wl]) (rest := []) ⟨hx, hb, hml, hown, hts⟩ (c_X5_isLane l wl ) (va_cwS 1 hts gX5_film_X5_isLane rfl rfl rfl (by decide +kernel) ⟨Nat.le_of_ble_eq_true rfl, Nat.le_of_ble_eq_true rfl⟩) rr_preT rfl rfl hl.1 rfl (lv_room (Nat.le_of_ble_eq_true rfl)) dX5_film_15 ⟨Nat.zero_le _, Nat.zero_le _⟩) ?_
  refine rr_top (y := (bi true)) (congrArg bi hwl) ?_
  refine rb_if_ne (tgt := 23) hx hb dX5_film_18 (by decide) (fun c18 => ?_) (fun c18 => ?_)
  rotate_left
  · exact absurd c18 (by decide)
  refine lv_aload_n hx hb dX5_film_23 rfl (lv_at hl 0 rfl) ?_
  refine lv_iload_n hx hb dX5_film_24 rfl (lv_at hl 2 rfl) ?_
  refine lv_iload_n hx hb dX5_film_25 rfl (lv_at hl 3 rfl) ?_
  refine lv_iload hx hb dX5_film_26 (lv_at hl 4 rfl) ?_
  refine lv_aload_n hx hb dX5_film_28 rfl (lv_at hl 0 rfl) ?_
  refine va_get (D := (dC, dI)) (ci := 5) (v := .ref mw) (C := RX5) (T := TX5) (N := 15) hx hb hts hiX5 hown hK hP 0 rfl rfl 0 (by decide) (hts (.fieldLink RX5 7 "RestRegistersModel" "w" "[I") (by decide +kernel)) (fun _ h9 => h9) rfl dX5_film_29 ?_
  refine lv_iconst (v := (nI 0)) hx hb dX5_film_32 (by decide) ?_
  refine rn_iald hx hb hK hP 1 0 rfl rfl (i := 0) (by omega) (by decide) (v := (nI (Bw 0))) rfl dX5_film_33 ?_
  refine rr_callR (va_runV (As := [.int (nI sh), .int wl, .int (nI a), .int (nI (Bw 0))]) (rest := []) ⟨hx, hb, hml, hown, hts⟩ (c_X5_against l dC dI cI cJ cS m0 mw mt ml mz mi mr md mh im tl at0 st0 nu rm rh Th Ln Sz sh wl (nI a) (nI (Bw 0)) (by first | assumption | omega) (by first | assumption | omega) (by first | assumption | omega)) (cwV 4 hts gX5_film_X5_against rfl rfl rfl (by decide +kernel) ⟨Nat.le_of_ble_eq_true rfl, Nat.le_of_ble_eq_true rfl⟩) (rr_preV hKK (hP.sub [0, 2, 3] rfl) rfl rfl) rfl rfl hl.1 rfl (lv_room (Nat.le_of_ble_eq_true rfl)) dX5_film_34 ⟨Nat.zero_le _, Nat.zero_le _⟩) ?_
  refine rr_top (y := nI 0) href ?_
  refine lv_istore (lv' := [(5, .int (nI 0)), (0, .ref m0), (1, .int (nI r)), (2, .int (nI sh)), (3, .int wl), (4, .int (nI a))]) hx hb dX5_film_37 hl (by decide) rfl (fun ls hl => ?_)
  refine lv_iload hx hb dX5_film_39 (lv_at hl 0 rfl) ?_
  refine rn_if_ge (tgt := 47) hx hb dX5_film_41 (by decide) (by omega) ?_
  refine lv_iconst (v := (nI 0)) hx hb dX5_film_47 (by decide) ?_
  refine lv_istore (lv' := [(6, .int (nI 0)), (5, .int (nI 0)), (0, .ref m0), (1, .int (nI r)), (2, .int (nI sh)), (3, .int wl), (4, .int (nI a))]) hx hb dX5_film_48 hl (by decide) rfl (fun ls hl => ?_)
  have ec : It = flI It (24 * sh + a) (fun k => (nI (rsB Bw (r * 6 + k))).toInt64) 0 := flI_0 _ _ _
  rw [ec] at hP hD
  have hP : va_P (dC, dI) vwCl [(m0, .inr (5, [.ref mw, .int (bi im), .ref mt, .int (nI tl), .ref ml, .ref mz, .ref mi, .ref mr, .int (nI at0), .int (nI st0), .int (nI nu), .int (nI rm), .int (nI rh), .ref md, .ref mh])), (mw, .inl (cI, 480, .inl (nA Bw))), (ml, .inl (cI, 4, .inl (laF Th Ln))), (mz, .inl (cI, 4, .inl (nA Sz))), (mi, .inl (cJ, 96, .inr (.inl (flI It (24 * sh + a) (fun k => (nI (rsB Bw (r * 6 + k))).toInt64) 0))))] s.heap := hP
  have hD : va_D A [(m0, .inr (5, [.ref mw, .int (bi im), .ref mt, .int (nI tl), .ref ml, .ref mz, .ref mi, .ref mr, .int (nI at0), .int (nI st0), .int (nI nu), .int (nI rm), .int (nI rh), .ref md, .ref mh])), (mw, .inl (cI, 480, .inl (nA Bw))), (ml, .inl (cI, 4, .inl (laF Th Ln))), (mz, .inl (cI, 4, .inl (nA Sz))), (mi, .inl (cJ, 96, .inr (.inl (flI It (24 * sh + a) (fun k => (nI (rsB Bw (r * 6 + k))).toInt64) 0))))] := hD
  refine rlW1 (A1 := Nat) (fun H locs ls => W p l e _ s m _ below meth c H locs 0 0 _ (F0 m 50 ls [])) (fun k H locs ls => k ≤ Bw 0 ∧ va_P (dC, dI) vwCl [(m0, .inr (5, [.ref mw, .int (bi im), .ref mt, .int (nI tl), .ref ml, .ref mz, .ref mi, .ref mr, .int (nI at0), .int (nI st0), .int (nI nu), .int (nI rm), .int (nI rh), .ref md, .ref mh])), (mw, .inl (cI, 480, .inl (nA Bw))), (ml, .inl (cI, 4, .inl (laF Th Ln))), (mz, .inl (cI, 4, .inl (nA Sz))), (mi, .inl (cJ, 96, .inr (.inl (flI It (24 * sh + a) (fun k => (nI (rsB Bw (r * 6 + k))).toInt64) k))))] H ∧ va_D A [(m0, .inr (5, [.ref mw, .int (bi im), .ref mt, .int (nI tl), .ref ml, .ref mz, .ref mi, .ref mr, .int (nI at0), .int (nI st0), .int (nI nu), .int (nI rm), .int (nI rh), .ref md, .ref mh])), (mw, .inl (cI, 480, .inl (nA Bw))), (ml, .inl (cI, 4, .inl (laF Th Ln))), (mz, .inl (cI, 4, .inl (nA Sz))), (mi, .inl (cJ, 96, .inr (.inl (flI It (24 * sh + a) (fun k => (nI (rsB Bw (r * 6 + k))).toInt64) k))))] ∧ va_S A s.heap H locs ∧ lv_has ls 7 [(6, .int (nI k)), (5, .int (nI 0)), (0, .ref m0), (1, .int (nI r)), (2, .int (nI sh)), (3, .int wl), (4, .int (nI a))]) (fun k => Bw 0 - k) ?_ 0 _ _ ls ⟨by omega, hP, hD, hS, lv_sub hl [0, 1, 2, 3, 4, 5, 6] rfl⟩
  rintro k H locs ls ⟨hi, hP, hD, hS, hl⟩ ih50
  refine lv_iload hx hb dX5_film_50 (lv_at hl 0 rfl) ?_
  refine lv_aload_n hx hb dX5_film_52 rfl (lv_at hl 2 rfl) ?_
  refine va_get (D := (dC, dI)) (ci := 5) (v := .ref mw) (C := RX5) (T := TX5) (N := 15) hx hb hts hiX5 hown hK hP 0 rfl rfl 0 (by decide) (hts (.fieldLink RX5 7 "RestRegistersModel" "w" "[I") (by decide +kernel)) (fun _ h9 => h9) rfl dX5_film_53 ?_
  refine lv_iconst (v := (nI 0)) hx hb dX5_film_56 (by decide) ?_
  refine rn_iald hx hb hK hP 1 0 rfl rfl (i := 0) (by omega) (by decide) (v := (nI (Bw 0))) rfl dX5_film_57 ?_
  refine rn_icmp_ge (tgt := 98) hx hb dX5_film_58 (by decide) (by omega) (by omega) (fun c58 => ?_) (fun c58 => ?_)
  · skip
    have ek : k = Bw 0 := Nat.le_antisymm hi c58
    subst ek
    refine lv_aload_n hx hb dX5_film_98 rfl (lv_at hl 2 rfl) ?_
    refine va_get (D := (dC, dI)) (ci := 5) (v := .ref mw) (C := RX5) (T := TX5) (N := 15) hx hb hts hiX5 hown hK hP 0 rfl rfl 0 (by decide) (hts (.fieldLink RX5 7 "RestRegistersModel" "w" "[I") (by decide +kernel)) (fun _ h9 => h9) rfl dX5_film_99 ?_
    refine lv_iconst (v := (nI 0)) hx hb dX5_film_102 (by decide) ?_
    refine rn_iald hx hb hK hP 1 0 rfl rfl (i := 0) (by omega) (by decide) (v := (nI (Bw 0))) rfl dX5_film_103 ?_
    exact rr_iretW hx hb hr hlocks dX5_film_104 hP hD hS (rfl)
  refine lv_aload_n hx hb dX5_film_61 rfl (lv_at hl 2 rfl) ?_
  refine va_get (D := (dC, dI)) (ci := 5) (v := .ref mi) (C := RX5) (T := TX5) (N := 15) hx hb hts hiX5 hown hK hP 0 rfl rfl 6 (by decide) (hts (.fieldLink RX5 22 "RestRegistersModel" "items" "[J") (by decide +kernel)) (fun _ h9 => h9) rfl dX5_film_62 ?_
  refine lv_bipush (v := (nI 24)) hx hb dX5_film_65 (by decide) ?_
  refine lv_iload_n hx hb dX5_film_67 rfl (lv_at hl 4 rfl) ?_
  refine rn_imul hx hb dX5_film_68 ?_
  refine lv_iload hx hb dX5_film_69 (lv_at hl 6 rfl) ?_
  refine rn_iadd hx hb dX5_film_71 ?_
  refine lv_iload hx hb dX5_film_72 (lv_at hl 0 rfl) ?_
  refine rn_iadd hx hb dX5_film_74 ?_
  refine lv_aload_n hx hb dX5_film_75 rfl (lv_at hl 2 rfl) ?_
  refine va_get (D := (dC, dI)) (ci := 5) (v := .ref mw) (C := RX5) (T := TX5) (N := 15) hx hb hts hiX5 hown hK hP 0 rfl rfl 0 (by decide) (hts (.fieldLink RX5 7 "RestRegistersModel" "w" "[I") (by decide +kernel)) (fun _ h9 => h9) rfl dX5_film_76 ?_
  refine lv_bipush (v := (nI 15)) hx hb dX5_film_79 (by decide) ?_
  refine lv_bipush (v := (nI 6)) hx hb dX5_film_81 (by decide) ?_
  refine lv_iload_n hx hb dX5_film_83 rfl (lv_at hl 3 rfl) ?_
  refine rn_imul hx hb dX5_film_84 ?_
  refine rn_iadd hx hb dX5_film_85 ?_
  refine lv_iload hx hb dX5_film_86 (lv_at hl 0 rfl) ?_
  refine rn_iadd hx hb dX5_film_88 ?_
  refine rn_iald hx hb hK hP 1 0 rfl rfl (i := 15 + (6 * r) + k) (by omega) (by decide) (v := (nI (rsB Bw (r * 6 + k)))) (rs_at _ _ _) dX5_film_89 ?_
  refine lv_i2l hx hb dX5_film_90 rfl ?_
  refine rn_last hx hb hK hP hD hS 4 1 rfl rfl (i := 24 * sh + a + k) (by omega) (by decide) (g := flI It (24 * sh + a) (fun k => (nI (rsB Bw (r * 6 + k))).toInt64) (k + 1)) (flI_s rfl rfl) dX5_film_91 (fun H locs hP hD hS => ?_)
  have hP : va_P (dC, dI) vwCl [(m0, .inr (5, [.ref mw, .int (bi im), .ref mt, .int (nI tl), .ref ml, .ref mz, .ref mi, .ref mr, .int (nI at0), .int (nI st0), .int (nI nu), .int (nI rm), .int (nI rh), .ref md, .ref mh])), (mw, .inl (cI, 480, .inl (nA Bw))), (ml, .inl (cI, 4, .inl (laF Th Ln))), (mz, .inl (cI, 4, .inl (nA Sz))), (mi, .inl (cJ, 96, .inr (.inl (flI It (24 * sh + a) (fun k => (nI (rsB Bw (r * 6 + k))).toInt64) (k + 1)))))] H := hP
  have hD : va_D A [(m0, .inr (5, [.ref mw, .int (bi im), .ref mt, .int (nI tl), .ref ml, .ref mz, .ref mi, .ref mr, .int (nI at0), .int (nI st0), .int (nI nu), .int (nI rm), .int (nI rh), .ref md, .ref mh])), (mw, .inl (cI, 480, .inl (nA Bw))), (ml, .inl (cI, 4, .inl (laF Th Ln))), (mz, .inl (cI, 4, .inl (nA Sz))), (mi, .inl (cJ, 96, .inr (.inl (flI It (24 * sh + a) (fun k => (nI (rsB Bw (r * 6 + k))).toInt64) (k + 1)))))] := hD
  refine lv_iinc (v := (nI (k + 1))) (lv' := [(6, .int (nI (k + 1))), (5, .int (nI 0)), (0, .ref m0), (1, .int (nI r)), (2, .int (nI sh)), (3, .int wl), (4, .int (nI a))]) hx hb dX5_film_92 hl (k := 0) rfl (rn_inc k 1) (by decide) rfl (fun ls hl => ?_)
  refine lv_goto (tgt := 50) hx hb dX5_film_95 (by decide) ?_
  exact ih50 (k + 1) _ _ ls ⟨by omega, hP, hD, hS, lv_sub hl [0, 1, 2, 3, 4, 5, 6] rfl⟩ (by omega)
set_option maxHeartbeats 4000000 in
set_option maxRecDepth 100000 in
theorem c_X5_film_r (l : Launch) (dC : Nat → ClassId) (dI : Nat → Nat → Nat) (cI cJ cS : ClassId) (m0 mw mt ml mz mi mr md mh : Nat) (im : Bool) (tl at0 st0 nu rm rh : Nat) (Bw : Nat → Nat) (Th : Nat → Bool) (Ln Sz : Nat → Nat) (It : Nat → Int64) (r sh : Nat) (wl i : Int32) (hm : mOk Bw) (hz : ∀ j, j < 4 → Sz j ≤ 24) (hl3 : ∀ j, j < 4 → Ln j ≤ 3) (hr4 : r < 4) (hs4 : sh < 4) (hwl : inb wl 4 = true) (href : ¬ refI (Th sh) (Ln sh) (Sz sh) wl i (nI (Bw 0)) = nI 0) : Met l yX5_film wsX5_film ({ frames := 2, cells := 0, slots := 0, locals := 45 }) (va_Pc [.ref m0, .int (nI r), .int (nI sh), .int wl, .int i] (rB (dC, dI) vwCl [(m0, .inr (5, [.ref mw, .int (bi im), .ref mt, .int (nI tl), .ref ml, .ref mz, .ref mi, .ref mr, .int (nI at0), .int (nI st0), .int (nI nu), .int (nI rm), .int (nI rh), .ref md, .ref mh])), (mw, .inl (cI, 480, .inl (nA Bw))), (ml, .inl (cI, 4, .inl (laF Th Ln))), (mz, .inl (cI, 4, .inl (nA Sz))), (mi, .inl (cJ, 96, .inr (.inl It)))] (tyz cI cJ cS))) (QcRead (refI (Th sh) (Ln sh) (Sz sh) wl i (nI (Bw 0)))) 0 0 (fun _ => False) := by
  refine Met.ofW (cc := cX5_film) (maxL := 7) (ret := (some .int)) (by decide) rfl ?_
  intro p e s m args below meth c s₁ B hml hv
  obtain ⟨rfl, hP, hKK⟩ := hv
  have hK := hKK.1
  have hx := B.exec
  have hb := B.bytes
  have hr := B.returns
  have hts := atoms_spec (ws := wsX5_film) B.pre
  have hown : s.vm.findClass RX5 = some m.cls := findClass_of_methodNamed B.named
  have hlocks := B.notSynchronized
  have hiX5 : ∀ w ∈ wsX50, w ∈ wsX5_film := by decide +kernel
  have hl := lv_entry ([.ref m0, .int (nI r), .int (nI sh), .int wl, .int i]) (n := 7) (Nat.le_of_ble_eq_true rfl)
  rw [lg_entry_eq]
  generalize (lg_sl ([.ref m0, .int (nI r), .int (nI sh), .int wl, .int i]) ++ List.replicate (7 - (lg_sl ([.ref m0, .int (nI r), .int (nI sh), .int wl, .int i])).length) Slot.unset).toArray = ls at hl ⊢
  have hl : lv_has ls 7 [(0, .ref m0), (1, .int (nI r)), (2, .int (nI sh)), (3, .int wl), (4, .int i)] := hl
  have hn6 := hm.n
  refine lv_iload_n hx hb dX5_film_0 rfl (lv_at hl 1 rfl) ?_
  refine rr_callR (va_runS (As := [.int (nI r)]) (rest := []) ⟨hx, hb, hml, hown, hts⟩ (c_X5_isRegister l (nI r) ) (va_cwS 1 hts gX5_film_X5_isRegister rfl rfl rfl (by decide +kernel) ⟨Nat.le_of_ble_eq_true rfl, Nat.le_of_ble_eq_true rfl⟩) rr_preT rfl rfl hl.1 rfl (lv_room (Nat.le_of_ble_eq_true rfl)) dX5_film_1 ⟨Nat.zero_le _, Nat.zero_le _⟩) ?_
  refine rr_top (y := bi true) (congrArg bi (inb_lt (by omega) (by omega))) ?_
  refine rb_if_eq (tgt := 21) hx hb dX5_film_4 (by decide) (fun c4 => ?_) (fun c4 => ?_)
  · exact absurd c4 (by decide)
  refine lv_iload_n hx hb dX5_film_7 rfl (lv_at hl 2 rfl) ?_
  refine rr_callR (va_runS (As := [.int (nI sh)]) (rest := []) ⟨hx, hb, hml, hown, hts⟩ (c_X5_isRegister l (nI sh) ) (va_cwS 1 hts gX5_film_X5_isRegister rfl rfl rfl (by decide +kernel) ⟨Nat.le_of_ble_eq_true rfl, Nat.le_of_ble_eq_true rfl⟩) rr_preT rfl rfl hl.1 rfl (lv_room (Nat.le_of_ble_eq_true rfl)) dX5_film_8 ⟨Nat.zero_le _, Nat.zero_le _⟩) ?_
  refine rr_top (y := bi true) (congrArg bi (inb_lt (by omega) (by omega))) ?_
  refine rb_if_eq (tgt := 21) hx hb dX5_film_11 (by decide) (fun c11 => ?_) (fun c11 => ?_)
  · exact absurd c11 (by decide)
  refine lv_iload_n hx hb dX5_film_14 rfl (lv_at hl 3 rfl) ?_
  refine rr_callR (va_runS (As := [.int wl]) (rest := []) ⟨hx, hb, hml, hown, hts⟩ (c_X5_isLane l wl ) (va_cwS 1 hts gX5_film_X5_isLane rfl rfl rfl (by decide +kernel) ⟨Nat.le_of_ble_eq_true rfl, Nat.le_of_ble_eq_true rfl⟩) rr_preT rfl rfl hl.1 rfl (lv_room (Nat.le_of_ble_eq_true rfl)) dX5_film_15 ⟨Nat.zero_le _, Nat.zero_le _⟩) ?_
  refine rr_top (y := (bi true)) (congrArg bi hwl) ?_
  refine rb_if_ne (tgt := 23) hx hb dX5_film_18 (by decide) (fun c18 => ?_) (fun c18 => ?_)
  rotate_left
  · exact absurd c18 (by decide)
  refine lv_aload_n hx hb dX5_film_23 rfl (lv_at hl 0 rfl) ?_
  refine lv_iload_n hx hb dX5_film_24 rfl (lv_at hl 2 rfl) ?_
  refine lv_iload_n hx hb dX5_film_25 rfl (lv_at hl 3 rfl) ?_
  refine lv_iload hx hb dX5_film_26 (lv_at hl 4 rfl) ?_
  refine lv_aload_n hx hb dX5_film_28 rfl (lv_at hl 0 rfl) ?_
  refine va_get (D := (dC, dI)) (ci := 5) (v := .ref mw) (C := RX5) (T := TX5) (N := 15) hx hb hts hiX5 hown hK hP 0 rfl rfl 0 (by decide) (hts (.fieldLink RX5 7 "RestRegistersModel" "w" "[I") (by decide +kernel)) (fun _ h9 => h9) rfl dX5_film_29 ?_
  refine lv_iconst (v := (nI 0)) hx hb dX5_film_32 (by decide) ?_
  refine rn_iald hx hb hK hP 1 0 rfl rfl (i := 0) (by omega) (by decide) (v := (nI (Bw 0))) rfl dX5_film_33 ?_
  refine rr_callR (va_runV (As := [.int (nI sh), .int wl, .int i, .int (nI (Bw 0))]) (rest := []) ⟨hx, hb, hml, hown, hts⟩ (c_X5_against l dC dI cI cJ cS m0 mw mt ml mz mi mr md mh im tl at0 st0 nu rm rh Th Ln Sz sh wl i (nI (Bw 0)) (by first | assumption | omega) (by first | assumption | omega) (by first | assumption | omega)) (cwV 4 hts gX5_film_X5_against rfl rfl rfl (by decide +kernel) ⟨Nat.le_of_ble_eq_true rfl, Nat.le_of_ble_eq_true rfl⟩) (rr_preV hKK (hP.sub [0, 2, 3] rfl) rfl rfl) rfl rfl hl.1 rfl (lv_room (Nat.le_of_ble_eq_true rfl)) dX5_film_34 ⟨Nat.zero_le _, Nat.zero_le _⟩) ?_
  refine lv_istore (lv' := [(5, .int (refI (Th sh) (Ln sh) (Sz sh) wl i (nI (Bw 0)))), (0, .ref m0), (1, .int (nI r)), (2, .int (nI sh)), (3, .int wl), (4, .int i)]) hx hb dX5_film_37 hl (by decide) rfl (fun ls hl => ?_)
  refine lv_iload hx hb dX5_film_39 (lv_at hl 0 rfl) ?_
  refine lv_if_ge (tgt := 47) hx hb dX5_film_41 (by decide) (fun c41 => ?_) (fun c41 => ?_)
  · skip
    exact absurd c41 (refI_neg href)
  refine lv_iload hx hb dX5_film_44 (lv_at hl 0 rfl) ?_
  exact rr_iret hx hb hr hlocks dX5_film_46 (rfl)
set_option maxHeartbeats 4000000 in
set_option maxRecDepth 100000 in
theorem c_X5_film_b (l : Launch) (dC : Nat → ClassId) (dI : Nat → Nat → Nat) (cI cJ cS : ClassId) (m0 mw mt ml mz mi mr md mh : Nat) (im : Bool) (tl at0 st0 nu rm rh : Nat) (Bw : Nat → Nat) (x y z i : Int32) (hm : mOk Bw) (hbad : (inb x 4 && inb y 4 && inb z 4) = false) : Met l yX5_film wsX5_film ({ frames := 2, cells := 0, slots := 0, locals := 45 }) (va_Pc [.ref m0, .int x, .int y, .int z, .int i] (rB (dC, dI) vwCl [(m0, .inr (5, [.ref mw, .int (bi im), .ref mt, .int (nI tl), .ref ml, .ref mz, .ref mi, .ref mr, .int (nI at0), .int (nI st0), .int (nI nu), .int (nI rm), .int (nI rh), .ref md, .ref mh])), (mw, .inl (cI, 480, .inl (nA Bw)))] (tyz cI cJ cS))) (QcRead (-1)) 0 0 (fun _ => False) := by
  refine Met.ofW (cc := cX5_film) (maxL := 7) (ret := (some .int)) (by decide) rfl ?_
  intro p e s m args below meth c s₁ B hml hv
  obtain ⟨rfl, hP, hKK⟩ := hv
  have hK := hKK.1
  have hx := B.exec
  have hb := B.bytes
  have hr := B.returns
  have hts := atoms_spec (ws := wsX5_film) B.pre
  have hown : s.vm.findClass RX5 = some m.cls := findClass_of_methodNamed B.named
  have hlocks := B.notSynchronized
  have hiX5 : ∀ w ∈ wsX50, w ∈ wsX5_film := by decide +kernel
  have hl := lv_entry ([.ref m0, .int x, .int y, .int z, .int i]) (n := 7) (Nat.le_of_ble_eq_true rfl)
  rw [lg_entry_eq]
  generalize (lg_sl ([.ref m0, .int x, .int y, .int z, .int i]) ++ List.replicate (7 - (lg_sl ([.ref m0, .int x, .int y, .int z, .int i])).length) Slot.unset).toArray = ls at hl ⊢
  have hl : lv_has ls 7 [(0, .ref m0), (1, .int x), (2, .int y), (3, .int z), (4, .int i)] := hl
  have hn6 := hm.n
  refine lv_iload_n hx hb dX5_film_0 rfl (lv_at hl 1 rfl) ?_
  refine rr_callR (va_runS (As := [.int x]) (rest := []) ⟨hx, hb, hml, hown, hts⟩ (c_X5_isRegister l x ) (va_cwS 1 hts gX5_film_X5_isRegister rfl rfl rfl (by decide +kernel) ⟨Nat.le_of_ble_eq_true rfl, Nat.le_of_ble_eq_true rfl⟩) rr_preT rfl rfl hl.1 rfl (lv_room (Nat.le_of_ble_eq_true rfl)) dX5_film_1 ⟨Nat.zero_le _, Nat.zero_le _⟩) ?_
  refine rb_if_eq (tgt := 21) hx hb dX5_film_4 (by decide) (fun c4 => ?_) (fun c4 => ?_)
  · skip
    refine lv_iconst (v := (-1)) hx hb dX5_film_21 (by decide) ?_
    exact rr_iret hx hb hr hlocks dX5_film_22 (rfl)
  refine lv_iload_n hx hb dX5_film_7 rfl (lv_at hl 2 rfl) ?_
  refine rr_callR (va_runS (As := [.int y]) (rest := []) ⟨hx, hb, hml, hown, hts⟩ (c_X5_isRegister l y ) (va_cwS 1 hts gX5_film_X5_isRegister rfl rfl rfl (by decide +kernel) ⟨Nat.le_of_ble_eq_true rfl, Nat.le_of_ble_eq_true rfl⟩) rr_preT rfl rfl hl.1 rfl (lv_room (Nat.le_of_ble_eq_true rfl)) dX5_film_8 ⟨Nat.zero_le _, Nat.zero_le _⟩) ?_
  refine rb_if_eq (tgt := 21) hx hb dX5_film_11 (by decide) (fun c11 => ?_) (fun c11 => ?_)
  · skip
    refine lv_iconst (v := (-1)) hx hb dX5_film_21 (by decide) ?_
    exact rr_iret hx hb hr hlocks dX5_film_22 (rfl)
  refine lv_iload_n hx hb dX5_film_14 rfl (lv_at hl 3 rfl) ?_
  refine rr_callR (va_runS (As := [.int z]) (rest := []) ⟨hx, hb, hml, hown, hts⟩ (c_X5_isLane l z ) (va_cwS 1 hts gX5_film_X5_isLane rfl rfl rfl (by decide +kernel) ⟨Nat.le_of_ble_eq_true rfl, Nat.le_of_ble_eq_true rfl⟩) rr_preT rfl rfl hl.1 rfl (lv_room (Nat.le_of_ble_eq_true rfl)) dX5_film_15 ⟨Nat.zero_le _, Nat.zero_le _⟩) ?_
  refine rb_if_ne (tgt := 23) hx hb dX5_film_18 (by decide) (fun c18 => ?_) (fun c18 => ?_)
  · skip
    exact absurd hbad (by rw [c4, c11, c18]; decide)
  refine lv_iconst (v := (-1)) hx hb dX5_film_21 (by decide) ?_
  exact rr_iret hx hb hr hlocks dX5_film_22 (rfl)
set_option maxHeartbeats 4000000 in
set_option maxRecDepth 100000 in
theorem c_X5_sheet_g (l : Launch) (dC : Nat → ClassId) (dI : Nat → Nat → Nat) (cI cJ cS : ClassId) (sz : Nat) (m0 mw mt ml mz mi mr md mh : Nat) (im : Bool) (tl at0 st0 nu rm rh : Nat) (Th : Nat → Bool) (Ln Sz : Nat → Nat) (It : Nat → Int64) (sh l2 n2 : Nat) (hs4 : sh < 4) (hl4 : l2 < 4) (hn24 : n2 ≤ 24) : Met l yX5_sheet wsX5_sheet ({ frames := 2, cells := 0, slots := 0, locals := 45 }) (va_Pc [.ref m0, .int (nI sh), .int (nI l2), .int (nI n2)] (rW (dC, dI) vwCl [(m0, .inr (5, [.ref mw, .int (bi im), .ref mt, .int (nI tl), .ref ml, .ref mz, .ref mi, .ref mr, .int (nI at0), .int (nI st0), .int (nI nu), .int (nI rm), .int (nI rh), .ref md, .ref mh])), (ml, .inl (cI, 4, .inl (laF Th Ln))), (mz, .inl (cI, 4, .inl (nA Sz))), (mi, .inl (cJ, 96, .inr (.inl It)))] (tyz cI cJ cS) sz)) (qI (nI n2) (dC, dI) vwCl [(m0, .inr (5, [.ref mw, .int (bi im), .ref mt, .int (nI tl), .ref ml, .ref mz, .ref mi, .ref mr, .int (nI at0), .int (nI st0), .int (nI nu), .int (nI rm), .int (nI rh), .ref md, .ref mh])), (ml, .inl (cI, 4, .inl (laF (uB Th sh true) (uN Ln sh l2)))), (mz, .inl (cI, 4, .inl (nA (uN Sz sh n2)))), (mi, .inl (cJ, 96, .inr (.inl (flI It (24 * sh) (fun _ => 0) 24))))] (va_A [(m0, .inr (5, [.ref mw, .int (bi im), .ref mt, .int (nI tl), .ref ml, .ref mz, .ref mi, .ref mr, .int (nI at0), .int (nI st0), .int (nI nu), .int (nI rm), .int (nI rh), .ref md, .ref mh])), (ml, .inl (cI, 4, .inl (laF Th Ln))), (mz, .inl (cI, 4, .inl (nA Sz))), (mi, .inl (cJ, 96, .inr (.inl It)))] sz)) 0 0 (va_A [(m0, .inr (5, [.ref mw, .int (bi im), .ref mt, .int (nI tl), .ref ml, .ref mz, .ref mi, .ref mr, .int (nI at0), .int (nI st0), .int (nI nu), .int (nI rm), .int (nI rh), .ref md, .ref mh])), (ml, .inl (cI, 4, .inl (laF Th Ln))), (mz, .inl (cI, 4, .inl (nA Sz))), (mi, .inl (cJ, 96, .inr (.inl It)))] sz) := by
  refine Met.ofW (cc := cX5_sheet) (maxL := 5) (ret := (some .int)) (by decide) rfl ?_
  intro p e s m args below meth c s₁ B hml hv
  obtain ⟨rfl, hsz, hP, hKK, hD0⟩ := hv
  have hK := hKK.1
  have hx := B.exec
  have hb := B.bytes
  have hr := B.returns
  have hts := atoms_spec (ws := wsX5_sheet) B.pre
  have hown : s.vm.findClass RX5 = some m.cls := findClass_of_methodNamed B.named
  have hlocks := B.notSynchronized
  subst hsz
  have hD := hD0.self (sz := s.heap.size)
  generalize hAe : va_A [(m0, .inr (5, [.ref mw, .int (bi im), .ref mt, .int (nI tl), .ref ml, .ref mz, .ref mi, .ref mr, .int (nI at0), .int (nI st0), .int (nI nu), .int (nI rm), .int (nI rh), .ref md, .ref mh])), (ml, .inl (cI, 4, .inl (laF Th Ln))), (mz, .inl (cI, 4, .inl (nA Sz))), (mi, .inl (cJ, 96, .inr (.inl It)))] s.heap.size = A at hD ⊢
  have hA : ∀ q : Nat, s.heap.size ≤ q → A q := fun q h => by rw [← hAe]; exact Or.inr h
  have hS : va_S A s.heap s.heap [] := va_S.rf
  have hP : va_P (dC, dI) vwCl [(m0, .inr (5, [.ref mw, .int (bi im), .ref mt, .int (nI tl), .ref ml, .ref mz, .ref mi, .ref mr, .int (nI at0), .int (nI st0), .int (nI nu), .int (nI rm), .int (nI rh), .ref md, .ref mh])), (ml, .inl (cI, 4, .inl (laF Th Ln))), (mz, .inl (cI, 4, .inl (nA Sz))), (mi, .inl (cJ, 96, .inr (.inl It)))] s.heap := hP
  have hiX5 : ∀ w ∈ wsX50, w ∈ wsX5_sheet := by decide +kernel
  have hl := lv_entry ([.ref m0, .int (nI sh), .int (nI l2), .int (nI n2)]) (n := 5) (Nat.le_of_ble_eq_true rfl)
  rw [lg_entry_eq]
  generalize (lg_sl ([.ref m0, .int (nI sh), .int (nI l2), .int (nI n2)]) ++ List.replicate (5 - (lg_sl ([.ref m0, .int (nI sh), .int (nI l2), .int (nI n2)])).length) Slot.unset).toArray = ls at hl ⊢
  have hl : lv_has ls 5 [(0, .ref m0), (1, .int (nI sh)), (2, .int (nI l2)), (3, .int (nI n2))] := hl
  refine lv_iload_n hx hb dX5_sheet_0 rfl (lv_at hl 1 rfl) ?_
  refine rr_callR (va_runS (As := [.int (nI sh)]) (rest := []) ⟨hx, hb, hml, hown, hts⟩ (c_X5_isRegister l (nI sh) ) (va_cwS 1 hts gX5_sheet_X5_isRegister rfl rfl rfl (by decide +kernel) ⟨Nat.le_of_ble_eq_true rfl, Nat.le_of_ble_eq_true rfl⟩) rr_preT rfl rfl hl.1 rfl (lv_room (Nat.le_of_ble_eq_true rfl)) dX5_sheet_1 ⟨Nat.zero_le _, Nat.zero_le _⟩) ?_
  refine rr_top (y := bi true) (congrArg bi (inb_lt (by omega) (by omega))) ?_
  refine rb_if_eq (tgt := 20) hx hb dX5_sheet_4 (by decide) (fun c4 => ?_) (fun c4 => ?_)
  · exact absurd c4 (by decide)
  refine lv_iload_n hx hb dX5_sheet_7 rfl (lv_at hl 2 rfl) ?_
  refine rr_callR (va_runS (As := [.int (nI l2)]) (rest := []) ⟨hx, hb, hml, hown, hts⟩ (c_X5_isLane l (nI l2) ) (va_cwS 1 hts gX5_sheet_X5_isLane rfl rfl rfl (by decide +kernel) ⟨Nat.le_of_ble_eq_true rfl, Nat.le_of_ble_eq_true rfl⟩) rr_preT rfl rfl hl.1 rfl (lv_room (Nat.le_of_ble_eq_true rfl)) dX5_sheet_8 ⟨Nat.zero_le _, Nat.zero_le _⟩) ?_
  refine rr_top (y := bi true) (congrArg bi (inb_lt (by omega) (by omega))) ?_
  refine rb_if_eq (tgt := 20) hx hb dX5_sheet_11 (by decide) (fun c11 => ?_) (fun c11 => ?_)
  · exact absurd c11 (by decide)
  refine lv_iload_n hx hb dX5_sheet_14 rfl (lv_at hl 3 rfl) ?_
  refine lv_bipush (v := (nI 24)) hx hb dX5_sheet_15 (by decide) ?_
  refine rn_icmp_le (tgt := 22) hx hb dX5_sheet_17 (by decide) (by omega) (by omega) (fun c17 => ?_) (fun c17 => ?_)
  · skip
    refine lv_iload_n hx hb dX5_sheet_22 rfl (lv_at hl 3 rfl) ?_
    refine rn_if_ge (tgt := 29) hx hb dX5_sheet_23 (by decide) (by omega) ?_
    refine lv_aload_n hx hb dX5_sheet_29 rfl (lv_at hl 0 rfl) ?_
    refine va_get (D := (dC, dI)) (ci := 5) (v := .ref ml) (C := RX5) (T := TX5) (N := 15) hx hb hts hiX5 hown hK hP 0 rfl rfl 4 (by decide) (hts (.fieldLink RX5 16 "RestRegistersModel" "lane" "[I") (by decide +kernel)) (fun _ h9 => h9) rfl dX5_sheet_30 ?_
    refine lv_iload_n hx hb dX5_sheet_33 rfl (lv_at hl 1 rfl) ?_
    refine lv_iload_n hx hb dX5_sheet_34 rfl (lv_at hl 2 rfl) ?_
    refine rn_iast hx hb hK hP hD hS 1 0 rfl rfl (i := sh) (by omega) (by decide) (g := laF (uB Th sh true) (uN Ln sh l2)) (laF_put _ _ _ _) dX5_sheet_35 (fun H locs hP hD hS => ?_)
    have hP : va_P (dC, dI) vwCl [(m0, .inr (5, [.ref mw, .int (bi im), .ref mt, .int (nI tl), .ref ml, .ref mz, .ref mi, .ref mr, .int (nI at0), .int (nI st0), .int (nI nu), .int (nI rm), .int (nI rh), .ref md, .ref mh])), (ml, .inl (cI, 4, .inl (laF (uB Th sh true) (uN Ln sh l2)))), (mz, .inl (cI, 4, .inl (nA Sz))), (mi, .inl (cJ, 96, .inr (.inl It)))] H := hP
    have hD : va_D A [(m0, .inr (5, [.ref mw, .int (bi im), .ref mt, .int (nI tl), .ref ml, .ref mz, .ref mi, .ref mr, .int (nI at0), .int (nI st0), .int (nI nu), .int (nI rm), .int (nI rh), .ref md, .ref mh])), (ml, .inl (cI, 4, .inl (laF (uB Th sh true) (uN Ln sh l2)))), (mz, .inl (cI, 4, .inl (nA Sz))), (mi, .inl (cJ, 96, .inr (.inl It)))] := hD
    refine lv_aload_n hx hb dX5_sheet_36 rfl (lv_at hl 0 rfl) ?_
    refine va_get (D := (dC, dI)) (ci := 5) (v := .ref mz) (C := RX5) (T := TX5) (N := 15) hx hb hts hiX5 hown hK hP 0 rfl rfl 5 (by decide) (hts (.fieldLink RX5 19 "RestRegistersModel" "size" "[I") (by decide +kernel)) (fun _ h9 => h9) rfl dX5_sheet_37 ?_
    refine lv_iload_n hx hb dX5_sheet_40 rfl (lv_at hl 1 rfl) ?_
    refine lv_iload_n hx hb dX5_sheet_41 rfl (lv_at hl 3 rfl) ?_
    refine rn_iast hx hb hK hP hD hS 2 0 rfl rfl (i := sh) (by omega) (by decide) (g := nA (uN Sz sh n2)) (nA_upd _ _ _) dX5_sheet_42 (fun H locs hP hD hS => ?_)
    have hP : va_P (dC, dI) vwCl [(m0, .inr (5, [.ref mw, .int (bi im), .ref mt, .int (nI tl), .ref ml, .ref mz, .ref mi, .ref mr, .int (nI at0), .int (nI st0), .int (nI nu), .int (nI rm), .int (nI rh), .ref md, .ref mh])), (ml, .inl (cI, 4, .inl (laF (uB Th sh true) (uN Ln sh l2)))), (mz, .inl (cI, 4, .inl (nA (uN Sz sh n2)))), (mi, .inl (cJ, 96, .inr (.inl It)))] H := hP
    have hD : va_D A [(m0, .inr (5, [.ref mw, .int (bi im), .ref mt, .int (nI tl), .ref ml, .ref mz, .ref mi, .ref mr, .int (nI at0), .int (nI st0), .int (nI nu), .int (nI rm), .int (nI rh), .ref md, .ref mh])), (ml, .inl (cI, 4, .inl (laF (uB Th sh true) (uN Ln sh l2)))), (mz, .inl (cI, 4, .inl (nA (uN Sz sh n2)))), (mi, .inl (cJ, 96, .inr (.inl It)))] := hD
    refine lv_iconst (v := (nI 0)) hx hb dX5_sheet_43 (by decide) ?_
    refine lv_istore (lv' := [(4, .int (nI 0)), (0, .ref m0), (1, .int (nI sh)), (2, .int (nI l2)), (3, .int (nI n2))]) hx hb dX5_sheet_44 hl (by decide) rfl (fun ls hl => ?_)
    have ec : It = flI It (24 * sh) (fun _ => 0) 0 := flI_0 _ _ _
    rw [ec] at hP hD
    have hP : va_P (dC, dI) vwCl [(m0, .inr (5, [.ref mw, .int (bi im), .ref mt, .int (nI tl), .ref ml, .ref mz, .ref mi, .ref mr, .int (nI at0), .int (nI st0), .int (nI nu), .int (nI rm), .int (nI rh), .ref md, .ref mh])), (ml, .inl (cI, 4, .inl (laF (uB Th sh true) (uN Ln sh l2)))), (mz, .inl (cI, 4, .inl (nA (uN Sz sh n2)))), (mi, .inl (cJ, 96, .inr (.inl (flI It (24 * sh) (fun _ => 0) 0))))] H := hP
    have hD : va_D A [(m0, .inr (5, [.ref mw, .int (bi im), .ref mt, .int (nI tl), .ref ml, .ref mz, .ref mi, .ref mr, .int (nI at0), .int (nI st0), .int (nI nu), .int (nI rm), .int (nI rh), .ref md, .ref mh])), (ml, .inl (cI, 4, .inl (laF (uB Th sh true) (uN Ln sh l2)))), (mz, .inl (cI, 4, .inl (nA (uN Sz sh n2)))), (mi, .inl (cJ, 96, .inr (.inl (flI It (24 * sh) (fun _ => 0) 0))))] := hD
    refine rlW1 (A1 := Nat) (fun H locs ls => W p l e _ s m _ below meth c H locs 0 0 _ (F0 m 46 ls [])) (fun k H locs ls => k ≤ 24 ∧ va_P (dC, dI) vwCl [(m0, .inr (5, [.ref mw, .int (bi im), .ref mt, .int (nI tl), .ref ml, .ref mz, .ref mi, .ref mr, .int (nI at0), .int (nI st0), .int (nI nu), .int (nI rm), .int (nI rh), .ref md, .ref mh])), (ml, .inl (cI, 4, .inl (laF (uB Th sh true) (uN Ln sh l2)))), (mz, .inl (cI, 4, .inl (nA (uN Sz sh n2)))), (mi, .inl (cJ, 96, .inr (.inl (flI It (24 * sh) (fun _ => 0) k))))] H ∧ va_D A [(m0, .inr (5, [.ref mw, .int (bi im), .ref mt, .int (nI tl), .ref ml, .ref mz, .ref mi, .ref mr, .int (nI at0), .int (nI st0), .int (nI nu), .int (nI rm), .int (nI rh), .ref md, .ref mh])), (ml, .inl (cI, 4, .inl (laF (uB Th sh true) (uN Ln sh l2)))), (mz, .inl (cI, 4, .inl (nA (uN Sz sh n2)))), (mi, .inl (cJ, 96, .inr (.inl (flI It (24 * sh) (fun _ => 0) k))))] ∧ va_S A s.heap H locs ∧ lv_has ls 5 [(4, .int (nI k)), (0, .ref m0), (1, .int (nI sh)), (2, .int (nI l2)), (3, .int (nI n2))]) (fun k => 24 - k) ?_ 0 _ _ ls ⟨by omega, hP, hD, hS, lv_sub hl [0, 1, 2, 3, 4] rfl⟩
    rintro k H locs ls ⟨hi, hP, hD, hS, hl⟩ ih46
    refine lv_iload hx hb dX5_sheet_46 (lv_at hl 0 rfl) ?_
    refine lv_bipush (v := (nI 24)) hx hb dX5_sheet_48 (by decide) ?_
    refine rn_icmp_ge (tgt := 72) hx hb dX5_sheet_50 (by decide) (by omega) (by omega) (fun c50 => ?_) (fun c50 => ?_)
    · skip
      have ek : k = 24 := Nat.le_antisymm hi c50
      subst ek
      refine lv_iload_n hx hb dX5_sheet_72 rfl (lv_at hl 4 rfl) ?_
      exact rr_iretW hx hb hr hlocks dX5_sheet_73 hP hD hS (rfl)
    refine lv_aload_n hx hb dX5_sheet_53 rfl (lv_at hl 1 rfl) ?_
    refine va_get (D := (dC, dI)) (ci := 5) (v := .ref mi) (C := RX5) (T := TX5) (N := 15) hx hb hts hiX5 hown hK hP 0 rfl rfl 6 (by decide) (hts (.fieldLink RX5 22 "RestRegistersModel" "items" "[J") (by decide +kernel)) (fun _ h9 => h9) rfl dX5_sheet_54 ?_
    refine lv_bipush (v := (nI 24)) hx hb dX5_sheet_57 (by decide) ?_
    refine lv_iload_n hx hb dX5_sheet_59 rfl (lv_at hl 2 rfl) ?_
    refine rn_imul hx hb dX5_sheet_60 ?_
    refine lv_iload hx hb dX5_sheet_61 (lv_at hl 0 rfl) ?_
    refine rn_iadd hx hb dX5_sheet_63 ?_
    refine lv_lconst (v := 0) hx hb dX5_sheet_64 (by decide) ?_
    refine rn_last hx hb hK hP hD hS 3 1 rfl rfl (i := 24 * sh + k) (by omega) (by decide) (g := flI It (24 * sh) (fun _ => 0) (k + 1)) (flI_s rfl rfl) dX5_sheet_65 (fun H locs hP hD hS => ?_)
    have hP : va_P (dC, dI) vwCl [(m0, .inr (5, [.ref mw, .int (bi im), .ref mt, .int (nI tl), .ref ml, .ref mz, .ref mi, .ref mr, .int (nI at0), .int (nI st0), .int (nI nu), .int (nI rm), .int (nI rh), .ref md, .ref mh])), (ml, .inl (cI, 4, .inl (laF (uB Th sh true) (uN Ln sh l2)))), (mz, .inl (cI, 4, .inl (nA (uN Sz sh n2)))), (mi, .inl (cJ, 96, .inr (.inl (flI It (24 * sh) (fun _ => 0) (k + 1)))))] H := hP
    have hD : va_D A [(m0, .inr (5, [.ref mw, .int (bi im), .ref mt, .int (nI tl), .ref ml, .ref mz, .ref mi, .ref mr, .int (nI at0), .int (nI st0), .int (nI nu), .int (nI rm), .int (nI rh), .ref md, .ref mh])), (ml, .inl (cI, 4, .inl (laF (uB Th sh true) (uN Ln sh l2)))), (mz, .inl (cI, 4, .inl (nA (uN Sz sh n2)))), (mi, .inl (cJ, 96, .inr (.inl (flI It (24 * sh) (fun _ => 0) (k + 1)))))] := hD
    refine lv_iinc (v := (nI (k + 1))) (lv' := [(4, .int (nI (k + 1))), (0, .ref m0), (1, .int (nI sh)), (2, .int (nI l2)), (3, .int (nI n2))]) hx hb dX5_sheet_66 hl (k := 0) rfl (rn_inc k 1) (by decide) rfl (fun ls hl => ?_)
    refine lv_goto (tgt := 46) hx hb dX5_sheet_69 (by decide) ?_
    exact ih46 (k + 1) _ _ ls ⟨by omega, hP, hD, hS, lv_sub hl [0, 1, 2, 3, 4] rfl⟩ (by omega)
  exact absurd c17 (by omega)
set_option maxHeartbeats 4000000 in
set_option maxRecDepth 100000 in
theorem c_X5_sheet_b1 (l : Launch) (dC : Nat → ClassId) (dI : Nat → Nat → Nat) (cI cJ cS : ClassId) (m0 mw mt ml mz mi mr md mh : Nat) (im : Bool) (tl at0 st0 nu rm rh : Nat) (Bw : Nat → Nat) (x y z : Int32) (hbad : (inb x 4 && inb y 4) = false) : Met l yX5_sheet wsX5_sheet ({ frames := 2, cells := 0, slots := 0, locals := 45 }) (va_Pc [.ref m0, .int x, .int y, .int z] (rB (dC, dI) vwCl [(m0, .inr (5, [.ref mw, .int (bi im), .ref mt, .int (nI tl), .ref ml, .ref mz, .ref mi, .ref mr, .int (nI at0), .int (nI st0), .int (nI nu), .int (nI rm), .int (nI rh), .ref md, .ref mh])), (mw, .inl (cI, 480, .inl (nA Bw)))] (tyz cI cJ cS))) (QcRead (-1)) 0 0 (fun _ => False) := by
  refine Met.ofW (cc := cX5_sheet) (maxL := 5) (ret := (some .int)) (by decide) rfl ?_
  intro p e s m args below meth c s₁ B hml hv
  obtain ⟨rfl, hP, hKK⟩ := hv
  have hK := hKK.1
  have hx := B.exec
  have hb := B.bytes
  have hr := B.returns
  have hts := atoms_spec (ws := wsX5_sheet) B.pre
  have hown : s.vm.findClass RX5 = some m.cls := findClass_of_methodNamed B.named
  have hlocks := B.notSynchronized
  have hiX5 : ∀ w ∈ wsX50, w ∈ wsX5_sheet := by decide +kernel
  have hl := lv_entry ([.ref m0, .int x, .int y, .int z]) (n := 5) (Nat.le_of_ble_eq_true rfl)
  rw [lg_entry_eq]
  generalize (lg_sl ([.ref m0, .int x, .int y, .int z]) ++ List.replicate (5 - (lg_sl ([.ref m0, .int x, .int y, .int z])).length) Slot.unset).toArray = ls at hl ⊢
  have hl : lv_has ls 5 [(0, .ref m0), (1, .int x), (2, .int y), (3, .int z)] := hl
  refine lv_iload_n hx hb dX5_sheet_0 rfl (lv_at hl 1 rfl) ?_
  refine rr_callR (va_runS (As := [.int x]) (rest := []) ⟨hx, hb, hml, hown, hts⟩ (c_X5_isRegister l x ) (va_cwS 1 hts gX5_sheet_X5_isRegister rfl rfl rfl (by decide +kernel) ⟨Nat.le_of_ble_eq_true rfl, Nat.le_of_ble_eq_true rfl⟩) rr_preT rfl rfl hl.1 rfl (lv_room (Nat.le_of_ble_eq_true rfl)) dX5_sheet_1 ⟨Nat.zero_le _, Nat.zero_le _⟩) ?_
  refine rb_if_eq (tgt := 20) hx hb dX5_sheet_4 (by decide) (fun c4 => ?_) (fun c4 => ?_)
  · skip
    refine lv_iconst (v := (-1)) hx hb dX5_sheet_20 (by decide) ?_
    exact rr_iret hx hb hr hlocks dX5_sheet_21 (rfl)
  refine lv_iload_n hx hb dX5_sheet_7 rfl (lv_at hl 2 rfl) ?_
  refine rr_callR (va_runS (As := [.int y]) (rest := []) ⟨hx, hb, hml, hown, hts⟩ (c_X5_isLane l y ) (va_cwS 1 hts gX5_sheet_X5_isLane rfl rfl rfl (by decide +kernel) ⟨Nat.le_of_ble_eq_true rfl, Nat.le_of_ble_eq_true rfl⟩) rr_preT rfl rfl hl.1 rfl (lv_room (Nat.le_of_ble_eq_true rfl)) dX5_sheet_8 ⟨Nat.zero_le _, Nat.zero_le _⟩) ?_
  refine rb_if_eq (tgt := 20) hx hb dX5_sheet_11 (by decide) (fun c11 => ?_) (fun c11 => ?_)
  · skip
    refine lv_iconst (v := (-1)) hx hb dX5_sheet_20 (by decide) ?_
    exact rr_iret hx hb hr hlocks dX5_sheet_21 (rfl)
  exact absurd hbad (by rw [c4, c11]; decide)
set_option maxHeartbeats 4000000 in
set_option maxRecDepth 100000 in
theorem c_X5_sheet_b2 (l : Launch) (dC : Nat → ClassId) (dI : Nat → Nat → Nat) (cI cJ cS : ClassId) (m0 mw mt ml mz mi mr md mh : Nat) (im : Bool) (tl at0 st0 nu rm rh : Nat) (Bw : Nat → Nat) (sh l2 : Nat) (z : Int32) (hs4 : sh < 4) (hl4 : l2 < 4) (hbad : ¬ z ≤ nI 24) : Met l yX5_sheet wsX5_sheet ({ frames := 2, cells := 0, slots := 0, locals := 45 }) (va_Pc [.ref m0, .int (nI sh), .int (nI l2), .int z] (rB (dC, dI) vwCl [(m0, .inr (5, [.ref mw, .int (bi im), .ref mt, .int (nI tl), .ref ml, .ref mz, .ref mi, .ref mr, .int (nI at0), .int (nI st0), .int (nI nu), .int (nI rm), .int (nI rh), .ref md, .ref mh])), (mw, .inl (cI, 480, .inl (nA Bw)))] (tyz cI cJ cS))) (QcRead (-1)) 0 0 (fun _ => False) := by
  refine Met.ofW (cc := cX5_sheet) (maxL := 5) (ret := (some .int)) (by decide) rfl ?_
  intro p e s m args below meth c s₁ B hml hv
  obtain ⟨rfl, hP, hKK⟩ := hv
  have hK := hKK.1
  have hx := B.exec
  have hb := B.bytes
  have hr := B.returns
  have hts := atoms_spec (ws := wsX5_sheet) B.pre
  have hown : s.vm.findClass RX5 = some m.cls := findClass_of_methodNamed B.named
  have hlocks := B.notSynchronized
  have hiX5 : ∀ w ∈ wsX50, w ∈ wsX5_sheet := by decide +kernel
  have hl := lv_entry ([.ref m0, .int (nI sh), .int (nI l2), .int z]) (n := 5) (Nat.le_of_ble_eq_true rfl)
  rw [lg_entry_eq]
  generalize (lg_sl ([.ref m0, .int (nI sh), .int (nI l2), .int z]) ++ List.replicate (5 - (lg_sl ([.ref m0, .int (nI sh), .int (nI l2), .int z])).length) Slot.unset).toArray = ls at hl ⊢
  have hl : lv_has ls 5 [(0, .ref m0), (1, .int (nI sh)), (2, .int (nI l2)), (3, .int z)] := hl
  refine lv_iload_n hx hb dX5_sheet_0 rfl (lv_at hl 1 rfl) ?_
  refine rr_callR (va_runS (As := [.int (nI sh)]) (rest := []) ⟨hx, hb, hml, hown, hts⟩ (c_X5_isRegister l (nI sh) ) (va_cwS 1 hts gX5_sheet_X5_isRegister rfl rfl rfl (by decide +kernel) ⟨Nat.le_of_ble_eq_true rfl, Nat.le_of_ble_eq_true rfl⟩) rr_preT rfl rfl hl.1 rfl (lv_room (Nat.le_of_ble_eq_true rfl)) dX5_sheet_1 ⟨Nat.zero_le _, Nat.zero_le _⟩) ?_
  refine rr_top (y := bi true) (congrArg bi (inb_lt (by omega) (by omega))) ?_
  refine rb_if_eq (tgt := 20) hx hb dX5_sheet_4 (by decide) (fun c4 => ?_) (fun c4 => ?_)
  · exact absurd c4 (by decide)
  refine lv_iload_n hx hb dX5_sheet_7 rfl (lv_at hl 2 rfl) ?_
  refine rr_callR (va_runS (As := [.int (nI l2)]) (rest := []) ⟨hx, hb, hml, hown, hts⟩ (c_X5_isLane l (nI l2) ) (va_cwS 1 hts gX5_sheet_X5_isLane rfl rfl rfl (by decide +kernel) ⟨Nat.le_of_ble_eq_true rfl, Nat.le_of_ble_eq_true rfl⟩) rr_preT rfl rfl hl.1 rfl (lv_room (Nat.le_of_ble_eq_true rfl)) dX5_sheet_8 ⟨Nat.zero_le _, Nat.zero_le _⟩) ?_
  refine rr_top (y := bi true) (congrArg bi (inb_lt (by omega) (by omega))) ?_
  refine rb_if_eq (tgt := 20) hx hb dX5_sheet_11 (by decide) (fun c11 => ?_) (fun c11 => ?_)
  · exact absurd c11 (by decide)
  refine lv_iload_n hx hb dX5_sheet_14 rfl (lv_at hl 3 rfl) ?_
  refine lv_bipush (v := (nI 24)) hx hb dX5_sheet_15 (by decide) ?_
  refine lv_icmp_le (tgt := 22) hx hb dX5_sheet_17 (by decide) (fun c17 => ?_) (fun c17 => ?_)
  · skip
    exact absurd c17 hbad
  refine lv_iconst (v := (-1)) hx hb dX5_sheet_20 (by decide) ?_
  exact rr_iret hx hb hr hlocks dX5_sheet_21 (rfl)
set_option maxHeartbeats 4000000 in
set_option maxRecDepth 100000 in
theorem c_X5_sheet_z (l : Launch) (dC : Nat → ClassId) (dI : Nat → Nat → Nat) (cI cJ cS : ClassId) (m0 mw mt ml mz mi mr md mh : Nat) (im : Bool) (tl at0 st0 nu rm rh : Nat) (Bw : Nat → Nat) (sh l2 : Nat) (z : Int32) (hs4 : sh < 4) (hl4 : l2 < 4) (hbad : z < 0) : Met l yX5_sheet wsX5_sheet ({ frames := 2, cells := 0, slots := 0, locals := 45 }) (va_Pc [.ref m0, .int (nI sh), .int (nI l2), .int z] (rB (dC, dI) vwCl [(m0, .inr (5, [.ref mw, .int (bi im), .ref mt, .int (nI tl), .ref ml, .ref mz, .ref mi, .ref mr, .int (nI at0), .int (nI st0), .int (nI nu), .int (nI rm), .int (nI rh), .ref md, .ref mh])), (mw, .inl (cI, 480, .inl (nA Bw)))] (tyz cI cJ cS))) (QcRead (-14)) 0 0 (fun _ => False) := by
  refine Met.ofW (cc := cX5_sheet) (maxL := 5) (ret := (some .int)) (by decide) rfl ?_
  intro p e s m args below meth c s₁ B hml hv
  obtain ⟨rfl, hP, hKK⟩ := hv
  have hK := hKK.1
  have hx := B.exec
  have hb := B.bytes
  have hr := B.returns
  have hts := atoms_spec (ws := wsX5_sheet) B.pre
  have hown : s.vm.findClass RX5 = some m.cls := findClass_of_methodNamed B.named
  have hlocks := B.notSynchronized
  have hiX5 : ∀ w ∈ wsX50, w ∈ wsX5_sheet := by decide +kernel
  have hl := lv_entry ([.ref m0, .int (nI sh), .int (nI l2), .int z]) (n := 5) (Nat.le_of_ble_eq_true rfl)
  rw [lg_entry_eq]
  generalize (lg_sl ([.ref m0, .int (nI sh), .int (nI l2), .int z]) ++ List.replicate (5 - (lg_sl ([.ref m0, .int (nI sh), .int (nI l2), .int z])).length) Slot.unset).toArray = ls at hl ⊢
  have hl : lv_has ls 5 [(0, .ref m0), (1, .int (nI sh)), (2, .int (nI l2)), (3, .int z)] := hl
  refine lv_iload_n hx hb dX5_sheet_0 rfl (lv_at hl 1 rfl) ?_
  refine rr_callR (va_runS (As := [.int (nI sh)]) (rest := []) ⟨hx, hb, hml, hown, hts⟩ (c_X5_isRegister l (nI sh) ) (va_cwS 1 hts gX5_sheet_X5_isRegister rfl rfl rfl (by decide +kernel) ⟨Nat.le_of_ble_eq_true rfl, Nat.le_of_ble_eq_true rfl⟩) rr_preT rfl rfl hl.1 rfl (lv_room (Nat.le_of_ble_eq_true rfl)) dX5_sheet_1 ⟨Nat.zero_le _, Nat.zero_le _⟩) ?_
  refine rr_top (y := bi true) (congrArg bi (inb_lt (by omega) (by omega))) ?_
  refine rb_if_eq (tgt := 20) hx hb dX5_sheet_4 (by decide) (fun c4 => ?_) (fun c4 => ?_)
  · exact absurd c4 (by decide)
  refine lv_iload_n hx hb dX5_sheet_7 rfl (lv_at hl 2 rfl) ?_
  refine rr_callR (va_runS (As := [.int (nI l2)]) (rest := []) ⟨hx, hb, hml, hown, hts⟩ (c_X5_isLane l (nI l2) ) (va_cwS 1 hts gX5_sheet_X5_isLane rfl rfl rfl (by decide +kernel) ⟨Nat.le_of_ble_eq_true rfl, Nat.le_of_ble_eq_true rfl⟩) rr_preT rfl rfl hl.1 rfl (lv_room (Nat.le_of_ble_eq_true rfl)) dX5_sheet_8 ⟨Nat.zero_le _, Nat.zero_le _⟩) ?_
  refine rr_top (y := bi true) (congrArg bi (inb_lt (by omega) (by omega))) ?_
  refine rb_if_eq (tgt := 20) hx hb dX5_sheet_11 (by decide) (fun c11 => ?_) (fun c11 => ?_)
  · exact absurd c11 (by decide)
  refine lv_iload_n hx hb dX5_sheet_14 rfl (lv_at hl 3 rfl) ?_
  refine lv_bipush (v := (nI 24)) hx hb dX5_sheet_15 (by decide) ?_
  refine lv_icmp_le (tgt := 22) hx hb dX5_sheet_17 (by decide) (fun c17 => ?_) (fun c17 => ?_)
  · skip
    refine lv_iload_n hx hb dX5_sheet_22 rfl (lv_at hl 3 rfl) ?_
    refine lv_if_ge (tgt := 29) hx hb dX5_sheet_23 (by decide) (fun c23 => ?_) (fun c23 => ?_)
    · skip
      exact absurd c23 (fun q => by rw [Int32.le_iff_toInt_le] at q; rw [Int32.lt_iff_toInt_lt] at hbad; omega)
    refine lv_bipush (v := (-14)) hx hb dX5_sheet_26 (by decide) ?_
    exact rr_iret hx hb hr hlocks dX5_sheet_28 (rfl)
  exact absurd (Int32.le_iff_toInt_le.mpr (by rw [nI_toInt (by decide)]; have := lt0_toInt hbad; omega)) c17
set_option maxHeartbeats 4000000 in
set_option maxRecDepth 100000 in
theorem c_X5_drop_g (l : Launch) (dC : Nat → ClassId) (dI : Nat → Nat → Nat) (cI cJ cS : ClassId) (sz : Nat) (m0 mw mt ml mz mi mr md mh : Nat) (im : Bool) (tl at0 st0 nu rm rh : Nat) (Th : Nat → Bool) (Ln Sz : Nat → Nat) (sh : Nat) (hs4 : sh < 4) (hth : Th sh = true) (hls : Ln sh ≤ 3) : Met l yX5_drop wsX5_drop ({ frames := 2, cells := 0, slots := 0, locals := 45 }) (va_Pc [.ref m0, .int (nI sh)] (rW (dC, dI) vwCl [(m0, .inr (5, [.ref mw, .int (bi im), .ref mt, .int (nI tl), .ref ml, .ref mz, .ref mi, .ref mr, .int (nI at0), .int (nI st0), .int (nI nu), .int (nI rm), .int (nI rh), .ref md, .ref mh])), (ml, .inl (cI, 4, .inl (laF Th Ln))), (mz, .inl (cI, 4, .inl (nA Sz)))] (tyz cI cJ cS) sz)) (qI (nI (Sz sh)) (dC, dI) vwCl [(m0, .inr (5, [.ref mw, .int (bi im), .ref mt, .int (nI tl), .ref ml, .ref mz, .ref mi, .ref mr, .int (nI at0), .int (nI st0), .int (nI nu), .int (nI rm), .int (nI rh), .ref md, .ref mh])), (ml, .inl (cI, 4, .inl (laF (uB Th sh false) Ln))), (mz, .inl (cI, 4, .inl (nA Sz)))] (va_A [(m0, .inr (5, [.ref mw, .int (bi im), .ref mt, .int (nI tl), .ref ml, .ref mz, .ref mi, .ref mr, .int (nI at0), .int (nI st0), .int (nI nu), .int (nI rm), .int (nI rh), .ref md, .ref mh])), (ml, .inl (cI, 4, .inl (laF Th Ln))), (mz, .inl (cI, 4, .inl (nA Sz)))] sz)) 0 0 (va_A [(m0, .inr (5, [.ref mw, .int (bi im), .ref mt, .int (nI tl), .ref ml, .ref mz, .ref mi, .ref mr, .int (nI at0), .int (nI st0), .int (nI nu), .int (nI rm), .int (nI rh), .ref md, .ref mh])), (ml, .inl (cI, 4, .inl (laF Th Ln))), (mz, .inl (cI, 4, .inl (nA Sz)))] sz) := by
  refine Met.ofW (cc := cX5_drop) (maxL := 2) (ret := (some .int)) (by decide) rfl ?_
  intro p e s m args below meth c s₁ B hml hv
  obtain ⟨rfl, hsz, hP, hKK, hD0⟩ := hv
  have hK := hKK.1
  have hx := B.exec
  have hb := B.bytes
  have hr := B.returns
  have hts := atoms_spec (ws := wsX5_drop) B.pre
  have hown : s.vm.findClass RX5 = some m.cls := findClass_of_methodNamed B.named
  have hlocks := B.notSynchronized
  subst hsz
  have hD := hD0.self (sz := s.heap.size)
  generalize hAe : va_A [(m0, .inr (5, [.ref mw, .int (bi im), .ref mt, .int (nI tl), .ref ml, .ref mz, .ref mi, .ref mr, .int (nI at0), .int (nI st0), .int (nI nu), .int (nI rm), .int (nI rh), .ref md, .ref mh])), (ml, .inl (cI, 4, .inl (laF Th Ln))), (mz, .inl (cI, 4, .inl (nA Sz)))] s.heap.size = A at hD ⊢
  have hA : ∀ q : Nat, s.heap.size ≤ q → A q := fun q h => by rw [← hAe]; exact Or.inr h
  have hS : va_S A s.heap s.heap [] := va_S.rf
  have hP : va_P (dC, dI) vwCl [(m0, .inr (5, [.ref mw, .int (bi im), .ref mt, .int (nI tl), .ref ml, .ref mz, .ref mi, .ref mr, .int (nI at0), .int (nI st0), .int (nI nu), .int (nI rm), .int (nI rh), .ref md, .ref mh])), (ml, .inl (cI, 4, .inl (laF Th Ln))), (mz, .inl (cI, 4, .inl (nA Sz)))] s.heap := hP
  have hiX5 : ∀ w ∈ wsX50, w ∈ wsX5_drop := by decide +kernel
  have hl := lv_entry ([.ref m0, .int (nI sh)]) (n := 2) (Nat.le_of_ble_eq_true rfl)
  rw [lg_entry_eq]
  generalize (lg_sl ([.ref m0, .int (nI sh)]) ++ List.replicate (2 - (lg_sl ([.ref m0, .int (nI sh)])).length) Slot.unset).toArray = ls at hl ⊢
  have hl : lv_has ls 2 [(0, .ref m0), (1, .int (nI sh))] := hl
  refine lv_iload_n hx hb dX5_drop_0 rfl (lv_at hl 1 rfl) ?_
  refine rr_callR (va_runS (As := [.int (nI sh)]) (rest := []) ⟨hx, hb, hml, hown, hts⟩ (c_X5_isRegister l (nI sh) ) (va_cwS 1 hts gX5_drop_X5_isRegister rfl rfl rfl (by decide +kernel) ⟨Nat.le_of_ble_eq_true rfl, Nat.le_of_ble_eq_true rfl⟩) rr_preT rfl rfl hl.1 rfl (lv_room (Nat.le_of_ble_eq_true rfl)) dX5_drop_1 ⟨Nat.zero_le _, Nat.zero_le _⟩) ?_
  refine rr_top (y := bi true) (congrArg bi (inb_lt (by omega) (by omega))) ?_
  refine rb_if_ne (tgt := 9) hx hb dX5_drop_4 (by decide) (fun c4 => ?_) (fun c4 => ?_)
  rotate_left
  · exact absurd c4 (by decide)
  refine lv_aload_n hx hb dX5_drop_9 rfl (lv_at hl 0 rfl) ?_
  refine va_get (D := (dC, dI)) (ci := 5) (v := .ref ml) (C := RX5) (T := TX5) (N := 15) hx hb hts hiX5 hown hK hP 0 rfl rfl 4 (by decide) (hts (.fieldLink RX5 16 "RestRegistersModel" "lane" "[I") (by decide +kernel)) (fun _ h9 => h9) rfl dX5_drop_10 ?_
  refine lv_iload_n hx hb dX5_drop_13 rfl (lv_at hl 1 rfl) ?_
  refine rn_iald hx hb hK hP 1 0 rfl rfl (i := sh) (by omega) (by decide) (v := ((laF Th Ln) sh)) rfl dX5_drop_14 ?_
  refine lv_if_ge (tgt := 21) hx hb dX5_drop_15 (by decide) (fun c15 => ?_) (fun c15 => ?_)
  · skip
    refine lv_aload_n hx hb dX5_drop_21 rfl (lv_at hl 0 rfl) ?_
    refine va_get (D := (dC, dI)) (ci := 5) (v := .ref ml) (C := RX5) (T := TX5) (N := 15) hx hb hts hiX5 hown hK hP 0 rfl rfl 4 (by decide) (hts (.fieldLink RX5 16 "RestRegistersModel" "lane" "[I") (by decide +kernel)) (fun _ h9 => h9) rfl dX5_drop_22 ?_
    refine lv_iload_n hx hb dX5_drop_25 rfl (lv_at hl 1 rfl) ?_
    refine lv_iconst (v := (-1)) hx hb dX5_drop_26 (by decide) ?_
    refine rn_iast hx hb hK hP hD hS 1 0 rfl rfl (i := sh) (by omega) (by decide) (g := laF (uB Th sh false) Ln) (laF_drop _ _ _) dX5_drop_27 (fun H locs hP hD hS => ?_)
    have hP : va_P (dC, dI) vwCl [(m0, .inr (5, [.ref mw, .int (bi im), .ref mt, .int (nI tl), .ref ml, .ref mz, .ref mi, .ref mr, .int (nI at0), .int (nI st0), .int (nI nu), .int (nI rm), .int (nI rh), .ref md, .ref mh])), (ml, .inl (cI, 4, .inl (laF (uB Th sh false) Ln))), (mz, .inl (cI, 4, .inl (nA Sz)))] H := hP
    have hD : va_D A [(m0, .inr (5, [.ref mw, .int (bi im), .ref mt, .int (nI tl), .ref ml, .ref mz, .ref mi, .ref mr, .int (nI at0), .int (nI st0), .int (nI nu), .int (nI rm), .int (nI rh), .ref md, .ref mh])), (ml, .inl (cI, 4, .inl (laF (uB Th sh false) Ln))), (mz, .inl (cI, 4, .inl (nA Sz)))] := hD
    refine lv_aload_n hx hb dX5_drop_28 rfl (lv_at hl 0 rfl) ?_
    refine va_get (D := (dC, dI)) (ci := 5) (v := .ref mz) (C := RX5) (T := TX5) (N := 15) hx hb hts hiX5 hown hK hP 0 rfl rfl 5 (by decide) (hts (.fieldLink RX5 19 "RestRegistersModel" "size" "[I") (by decide +kernel)) (fun _ h9 => h9) rfl dX5_drop_29 ?_
    refine lv_iload_n hx hb dX5_drop_32 rfl (lv_at hl 1 rfl) ?_
    refine rn_iald hx hb hK hP 2 0 rfl rfl (i := sh) (by omega) (by decide) (v := (nI (Sz sh))) rfl dX5_drop_33 ?_
    exact rr_iretW hx hb hr hlocks dX5_drop_34 hP hD hS (rfl)
  exact absurd (laF_f hls c15) (by rw [hth]; decide)
set_option maxHeartbeats 4000000 in
set_option maxRecDepth 100000 in
theorem c_X5_drop_n (l : Launch) (dC : Nat → ClassId) (dI : Nat → Nat → Nat) (cI cJ cS : ClassId) (m0 mw mt ml mz mi mr md mh : Nat) (im : Bool) (tl at0 st0 nu rm rh : Nat) (Th : Nat → Bool) (Ln Sz : Nat → Nat) (sh : Nat) (hs4 : sh < 4) (hth : Th sh = false) : Met l yX5_drop wsX5_drop ({ frames := 2, cells := 0, slots := 0, locals := 45 }) (va_Pc [.ref m0, .int (nI sh)] (rB (dC, dI) vwCl [(m0, .inr (5, [.ref mw, .int (bi im), .ref mt, .int (nI tl), .ref ml, .ref mz, .ref mi, .ref mr, .int (nI at0), .int (nI st0), .int (nI nu), .int (nI rm), .int (nI rh), .ref md, .ref mh])), (ml, .inl (cI, 4, .inl (laF Th Ln))), (mz, .inl (cI, 4, .inl (nA Sz)))] (tyz cI cJ cS))) (QcRead (-11)) 0 0 (fun _ => False) := by
  refine Met.ofW (cc := cX5_drop) (maxL := 2) (ret := (some .int)) (by decide) rfl ?_
  intro p e s m args below meth c s₁ B hml hv
  obtain ⟨rfl, hP, hKK⟩ := hv
  have hK := hKK.1
  have hx := B.exec
  have hb := B.bytes
  have hr := B.returns
  have hts := atoms_spec (ws := wsX5_drop) B.pre
  have hown : s.vm.findClass RX5 = some m.cls := findClass_of_methodNamed B.named
  have hlocks := B.notSynchronized
  have hiX5 : ∀ w ∈ wsX50, w ∈ wsX5_drop := by decide +kernel
  have hl := lv_entry ([.ref m0, .int (nI sh)]) (n := 2) (Nat.le_of_ble_eq_true rfl)
  rw [lg_entry_eq]
  generalize (lg_sl ([.ref m0, .int (nI sh)]) ++ List.replicate (2 - (lg_sl ([.ref m0, .int (nI sh)])).length) Slot.unset).toArray = ls at hl ⊢
  have hl : lv_has ls 2 [(0, .ref m0), (1, .int (nI sh))] := hl
  refine lv_iload_n hx hb dX5_drop_0 rfl (lv_at hl 1 rfl) ?_
  refine rr_callR (va_runS (As := [.int (nI sh)]) (rest := []) ⟨hx, hb, hml, hown, hts⟩ (c_X5_isRegister l (nI sh) ) (va_cwS 1 hts gX5_drop_X5_isRegister rfl rfl rfl (by decide +kernel) ⟨Nat.le_of_ble_eq_true rfl, Nat.le_of_ble_eq_true rfl⟩) rr_preT rfl rfl hl.1 rfl (lv_room (Nat.le_of_ble_eq_true rfl)) dX5_drop_1 ⟨Nat.zero_le _, Nat.zero_le _⟩) ?_
  refine rr_top (y := bi true) (congrArg bi (inb_lt (by omega) (by omega))) ?_
  refine rb_if_ne (tgt := 9) hx hb dX5_drop_4 (by decide) (fun c4 => ?_) (fun c4 => ?_)
  rotate_left
  · exact absurd c4 (by decide)
  refine lv_aload_n hx hb dX5_drop_9 rfl (lv_at hl 0 rfl) ?_
  refine va_get (D := (dC, dI)) (ci := 5) (v := .ref ml) (C := RX5) (T := TX5) (N := 15) hx hb hts hiX5 hown hK hP 0 rfl rfl 4 (by decide) (hts (.fieldLink RX5 16 "RestRegistersModel" "lane" "[I") (by decide +kernel)) (fun _ h9 => h9) rfl dX5_drop_10 ?_
  refine lv_iload_n hx hb dX5_drop_13 rfl (lv_at hl 1 rfl) ?_
  refine rn_iald hx hb hK hP 1 0 rfl rfl (i := sh) (by omega) (by decide) (v := ((laF Th Ln) sh)) rfl dX5_drop_14 ?_
  refine lv_if_ge (tgt := 21) hx hb dX5_drop_15 (by decide) (fun c15 => ?_) (fun c15 => ?_)
  · skip
    exact absurd (laF_t c15) (by rw [hth]; decide)
  refine lv_bipush (v := (-11)) hx hb dX5_drop_18 (by decide) ?_
  exact rr_iret hx hb hr hlocks dX5_drop_20 (rfl)
set_option maxHeartbeats 4000000 in
set_option maxRecDepth 100000 in
theorem c_X5_drop_b (l : Launch) (dC : Nat → ClassId) (dI : Nat → Nat → Nat) (cI cJ cS : ClassId) (m0 mw mt ml mz mi mr md mh : Nat) (im : Bool) (tl at0 st0 nu rm rh : Nat) (Bw : Nat → Nat) (x : Int32) (hbad : inb x 4 = false) : Met l yX5_drop wsX5_drop ({ frames := 2, cells := 0, slots := 0, locals := 45 }) (va_Pc [.ref m0, .int x] (rB (dC, dI) vwCl [(m0, .inr (5, [.ref mw, .int (bi im), .ref mt, .int (nI tl), .ref ml, .ref mz, .ref mi, .ref mr, .int (nI at0), .int (nI st0), .int (nI nu), .int (nI rm), .int (nI rh), .ref md, .ref mh])), (mw, .inl (cI, 480, .inl (nA Bw)))] (tyz cI cJ cS))) (QcRead (-1)) 0 0 (fun _ => False) := by
  refine Met.ofW (cc := cX5_drop) (maxL := 2) (ret := (some .int)) (by decide) rfl ?_
  intro p e s m args below meth c s₁ B hml hv
  obtain ⟨rfl, hP, hKK⟩ := hv
  have hK := hKK.1
  have hx := B.exec
  have hb := B.bytes
  have hr := B.returns
  have hts := atoms_spec (ws := wsX5_drop) B.pre
  have hown : s.vm.findClass RX5 = some m.cls := findClass_of_methodNamed B.named
  have hlocks := B.notSynchronized
  have hiX5 : ∀ w ∈ wsX50, w ∈ wsX5_drop := by decide +kernel
  have hl := lv_entry ([.ref m0, .int x]) (n := 2) (Nat.le_of_ble_eq_true rfl)
  rw [lg_entry_eq]
  generalize (lg_sl ([.ref m0, .int x]) ++ List.replicate (2 - (lg_sl ([.ref m0, .int x])).length) Slot.unset).toArray = ls at hl ⊢
  have hl : lv_has ls 2 [(0, .ref m0), (1, .int x)] := hl
  refine lv_iload_n hx hb dX5_drop_0 rfl (lv_at hl 1 rfl) ?_
  refine rr_callR (va_runS (As := [.int x]) (rest := []) ⟨hx, hb, hml, hown, hts⟩ (c_X5_isRegister l x ) (va_cwS 1 hts gX5_drop_X5_isRegister rfl rfl rfl (by decide +kernel) ⟨Nat.le_of_ble_eq_true rfl, Nat.le_of_ble_eq_true rfl⟩) rr_preT rfl rfl hl.1 rfl (lv_room (Nat.le_of_ble_eq_true rfl)) dX5_drop_1 ⟨Nat.zero_le _, Nat.zero_le _⟩) ?_
  refine rb_if_ne (tgt := 9) hx hb dX5_drop_4 (by decide) (fun c4 => ?_) (fun c4 => ?_)
  · skip
    exact absurd hbad (by rw [c4]; decide)
  refine lv_iconst (v := (-1)) hx hb dX5_drop_7 (by decide) ?_
  exact rr_iret hx hb hr hlocks dX5_drop_8 (rfl)
set_option maxHeartbeats 4000000 in
set_option maxRecDepth 100000 in
theorem c_X5_item_g (l : Launch) (dC : Nat → ClassId) (dI : Nat → Nat → Nat) (cI cJ cS : ClassId) (sz : Nat) (m0 mw mt ml mz mi mr md mh : Nat) (im : Bool) (tl at0 st0 nu rm rh : Nat) (Th : Nat → Bool) (Ln Sz : Nat → Nat) (It : Nat → Int64) (sh a : Nat) (wl : Int32) (v : Int64) (hz : ∀ j, j < 4 → Sz j ≤ 24) (hl3 : ∀ j, j < 4 → Ln j ≤ 3) (hs4 : sh < 4) (hwl : inb wl 4 = true) (href : refI (Th sh) (Ln sh) (Sz sh) wl (nI a) (nI 1) = nI 0) (has : a + 1 ≤ 24) : Met l yX5_item wsX5_item ({ frames := 2, cells := 0, slots := 0, locals := 45 }) (va_Pc [.ref m0, .int (nI sh), .int wl, .int (nI a), .long v] (rW (dC, dI) vwCl [(m0, .inr (5, [.ref mw, .int (bi im), .ref mt, .int (nI tl), .ref ml, .ref mz, .ref mi, .ref mr, .int (nI at0), .int (nI st0), .int (nI nu), .int (nI rm), .int (nI rh), .ref md, .ref mh])), (ml, .inl (cI, 4, .inl (laF Th Ln))), (mz, .inl (cI, 4, .inl (nA Sz))), (mi, .inl (cJ, 96, .inr (.inl It)))] (tyz cI cJ cS) sz)) (qI (nI 1) (dC, dI) vwCl [(m0, .inr (5, [.ref mw, .int (bi im), .ref mt, .int (nI tl), .ref ml, .ref mz, .ref mi, .ref mr, .int (nI at0), .int (nI st0), .int (nI nu), .int (nI rm), .int (nI rh), .ref md, .ref mh])), (ml, .inl (cI, 4, .inl (laF Th Ln))), (mz, .inl (cI, 4, .inl (nA Sz))), (mi, .inl (cJ, 96, .inr (.inl (vp_updL It (24 * sh + a) (cutL wl v)))))] (va_A [(m0, .inr (5, [.ref mw, .int (bi im), .ref mt, .int (nI tl), .ref ml, .ref mz, .ref mi, .ref mr, .int (nI at0), .int (nI st0), .int (nI nu), .int (nI rm), .int (nI rh), .ref md, .ref mh])), (ml, .inl (cI, 4, .inl (laF Th Ln))), (mz, .inl (cI, 4, .inl (nA Sz))), (mi, .inl (cJ, 96, .inr (.inl It)))] sz)) 0 0 (va_A [(m0, .inr (5, [.ref mw, .int (bi im), .ref mt, .int (nI tl), .ref ml, .ref mz, .ref mi, .ref mr, .int (nI at0), .int (nI st0), .int (nI nu), .int (nI rm), .int (nI rh), .ref md, .ref mh])), (ml, .inl (cI, 4, .inl (laF Th Ln))), (mz, .inl (cI, 4, .inl (nA Sz))), (mi, .inl (cJ, 96, .inr (.inl It)))] sz) := by
  refine Met.ofW (cc := cX5_item) (maxL := 7) (ret := (some .int)) (by decide) rfl ?_
  intro p e s m args below meth c s₁ B hml hv
  obtain ⟨rfl, hsz, hP, hKK, hD0⟩ := hv
  have hK := hKK.1
  have hx := B.exec
  have hb := B.bytes
  have hr := B.returns
  have hts := atoms_spec (ws := wsX5_item) B.pre
  have hown : s.vm.findClass RX5 = some m.cls := findClass_of_methodNamed B.named
  have hlocks := B.notSynchronized
  subst hsz
  have hD := hD0.self (sz := s.heap.size)
  generalize hAe : va_A [(m0, .inr (5, [.ref mw, .int (bi im), .ref mt, .int (nI tl), .ref ml, .ref mz, .ref mi, .ref mr, .int (nI at0), .int (nI st0), .int (nI nu), .int (nI rm), .int (nI rh), .ref md, .ref mh])), (ml, .inl (cI, 4, .inl (laF Th Ln))), (mz, .inl (cI, 4, .inl (nA Sz))), (mi, .inl (cJ, 96, .inr (.inl It)))] s.heap.size = A at hD ⊢
  have hA : ∀ q : Nat, s.heap.size ≤ q → A q := fun q h => by rw [← hAe]; exact Or.inr h
  have hS : va_S A s.heap s.heap [] := va_S.rf
  have hP : va_P (dC, dI) vwCl [(m0, .inr (5, [.ref mw, .int (bi im), .ref mt, .int (nI tl), .ref ml, .ref mz, .ref mi, .ref mr, .int (nI at0), .int (nI st0), .int (nI nu), .int (nI rm), .int (nI rh), .ref md, .ref mh])), (ml, .inl (cI, 4, .inl (laF Th Ln))), (mz, .inl (cI, 4, .inl (nA Sz))), (mi, .inl (cJ, 96, .inr (.inl It)))] s.heap := hP
  have hiX5 : ∀ w ∈ wsX50, w ∈ wsX5_item := by decide +kernel
  have hl := lv_entry ([.ref m0, .int (nI sh), .int wl, .int (nI a), .long v]) (n := 7) (Nat.le_of_ble_eq_true rfl)
  rw [lg_entry_eq]
  generalize (lg_sl ([.ref m0, .int (nI sh), .int wl, .int (nI a), .long v]) ++ List.replicate (7 - (lg_sl ([.ref m0, .int (nI sh), .int wl, .int (nI a), .long v])).length) Slot.unset).toArray = ls at hl ⊢
  have hl : lv_has ls 7 [(0, .ref m0), (1, .int (nI sh)), (2, .int wl), (3, .int (nI a)), (4, .long v)] := hl
  refine lv_iload_n hx hb dX5_item_0 rfl (lv_at hl 1 rfl) ?_
  refine rr_callR (va_runS (As := [.int (nI sh)]) (rest := []) ⟨hx, hb, hml, hown, hts⟩ (c_X5_isRegister l (nI sh) ) (va_cwS 1 hts gX5_item_X5_isRegister rfl rfl rfl (by decide +kernel) ⟨Nat.le_of_ble_eq_true rfl, Nat.le_of_ble_eq_true rfl⟩) rr_preT rfl rfl hl.1 rfl (lv_room (Nat.le_of_ble_eq_true rfl)) dX5_item_1 ⟨Nat.zero_le _, Nat.zero_le _⟩) ?_
  refine rr_top (y := bi true) (congrArg bi (inb_lt (by omega) (by omega))) ?_
  refine rb_if_eq (tgt := 14) hx hb dX5_item_4 (by decide) (fun c4 => ?_) (fun c4 => ?_)
  · exact absurd c4 (by decide)
  refine lv_iload_n hx hb dX5_item_7 rfl (lv_at hl 2 rfl) ?_
  refine rr_callR (va_runS (As := [.int wl]) (rest := []) ⟨hx, hb, hml, hown, hts⟩ (c_X5_isLane l wl ) (va_cwS 1 hts gX5_item_X5_isLane rfl rfl rfl (by decide +kernel) ⟨Nat.le_of_ble_eq_true rfl, Nat.le_of_ble_eq_true rfl⟩) rr_preT rfl rfl hl.1 rfl (lv_room (Nat.le_of_ble_eq_true rfl)) dX5_item_8 ⟨Nat.zero_le _, Nat.zero_le _⟩) ?_
  refine rr_top (y := (bi true)) (congrArg bi hwl) ?_
  refine rb_if_ne (tgt := 16) hx hb dX5_item_11 (by decide) (fun c11 => ?_) (fun c11 => ?_)
  rotate_left
  · exact absurd c11 (by decide)
  refine lv_aload_n hx hb dX5_item_16 rfl (lv_at hl 0 rfl) ?_
  refine lv_iload_n hx hb dX5_item_17 rfl (lv_at hl 1 rfl) ?_
  refine lv_iload_n hx hb dX5_item_18 rfl (lv_at hl 2 rfl) ?_
  refine lv_iload_n hx hb dX5_item_19 rfl (lv_at hl 3 rfl) ?_
  refine lv_iconst (v := (nI 1)) hx hb dX5_item_20 (by decide) ?_
  refine rr_callR (va_runV (As := [.int (nI sh), .int wl, .int (nI a), .int (nI 1)]) (rest := []) ⟨hx, hb, hml, hown, hts⟩ (c_X5_against l dC dI cI cJ cS m0 mw mt ml mz mi mr md mh im tl at0 st0 nu rm rh Th Ln Sz sh wl (nI a) (nI 1) (by first | assumption | omega) (by first | assumption | omega) (by first | assumption | omega)) (cwV 4 hts gX5_item_X5_against rfl rfl rfl (by decide +kernel) ⟨Nat.le_of_ble_eq_true rfl, Nat.le_of_ble_eq_true rfl⟩) (rr_preV hKK (hP.sub [0, 1, 2] rfl) rfl rfl) rfl rfl hl.1 rfl (lv_room (Nat.le_of_ble_eq_true rfl)) dX5_item_21 ⟨Nat.zero_le _, Nat.zero_le _⟩) ?_
  refine rr_top (y := nI 0) href ?_
  refine lv_istore (lv' := [(6, .int (nI 0)), (0, .ref m0), (1, .int (nI sh)), (2, .int wl), (3, .int (nI a)), (4, .long v)]) hx hb dX5_item_24 hl (by decide) rfl (fun ls hl => ?_)
  refine lv_iload hx hb dX5_item_26 (lv_at hl 0 rfl) ?_
  refine rn_if_ge (tgt := 34) hx hb dX5_item_28 (by decide) (by omega) ?_
  refine lv_aload_n hx hb dX5_item_34 rfl (lv_at hl 1 rfl) ?_
  refine va_get (D := (dC, dI)) (ci := 5) (v := .ref mi) (C := RX5) (T := TX5) (N := 15) hx hb hts hiX5 hown hK hP 0 rfl rfl 6 (by decide) (hts (.fieldLink RX5 22 "RestRegistersModel" "items" "[J") (by decide +kernel)) (fun _ h9 => h9) rfl dX5_item_35 ?_
  refine lv_bipush (v := (nI 24)) hx hb dX5_item_38 (by decide) ?_
  refine lv_iload_n hx hb dX5_item_40 rfl (lv_at hl 2 rfl) ?_
  refine rn_imul hx hb dX5_item_41 ?_
  refine lv_iload_n hx hb dX5_item_42 rfl (lv_at hl 4 rfl) ?_
  refine rn_iadd hx hb dX5_item_43 ?_
  refine lv_iload_n hx hb dX5_item_44 rfl (lv_at hl 3 rfl) ?_
  refine lv_lload hx hb dX5_item_45 (lv_at hl 5 rfl) ?_
  refine rr_callRL (va_runS (As := [.int wl, .long v]) (rest := [.int (nI (24 * sh + a)), .ref mi]) ⟨hx, hb, hml, hown, hts⟩ (c_X5_cut l wl v ) (va_cwS 2 hts gX5_item_X5_cut rfl rfl rfl (by decide +kernel) ⟨Nat.le_of_ble_eq_true rfl, Nat.le_of_ble_eq_true rfl⟩) rr_preT rfl rfl hl.1 rfl (lv_room (Nat.le_of_ble_eq_true rfl)) dX5_item_47 ⟨Nat.zero_le _, Nat.zero_le _⟩) ?_
  refine rn_last hx hb hK hP hD hS 3 1 rfl rfl (i := 24 * sh + a) (by omega) (by decide) (g := vp_updL It (24 * sh + a) (cutL wl v)) rfl dX5_item_50 (fun H locs hP hD hS => ?_)
  have hP : va_P (dC, dI) vwCl [(m0, .inr (5, [.ref mw, .int (bi im), .ref mt, .int (nI tl), .ref ml, .ref mz, .ref mi, .ref mr, .int (nI at0), .int (nI st0), .int (nI nu), .int (nI rm), .int (nI rh), .ref md, .ref mh])), (ml, .inl (cI, 4, .inl (laF Th Ln))), (mz, .inl (cI, 4, .inl (nA Sz))), (mi, .inl (cJ, 96, .inr (.inl (vp_updL It (24 * sh + a) (cutL wl v)))))] H := hP
  have hD : va_D A [(m0, .inr (5, [.ref mw, .int (bi im), .ref mt, .int (nI tl), .ref ml, .ref mz, .ref mi, .ref mr, .int (nI at0), .int (nI st0), .int (nI nu), .int (nI rm), .int (nI rh), .ref md, .ref mh])), (ml, .inl (cI, 4, .inl (laF Th Ln))), (mz, .inl (cI, 4, .inl (nA Sz))), (mi, .inl (cJ, 96, .inr (.inl (vp_updL It (24 * sh + a) (cutL wl v)))))] := hD
  refine lv_iconst (v := (nI 1)) hx hb dX5_item_51 (by decide) ?_
  exact rr_iretW hx hb hr hlocks dX5_item_52 hP hD hS (rfl)
set_option maxHeartbeats 4000000 in
set_option maxRecDepth 100000 in
theorem c_X5_item_r (l : Launch) (dC : Nat → ClassId) (dI : Nat → Nat → Nat) (cI cJ cS : ClassId) (m0 mw mt ml mz mi mr md mh : Nat) (im : Bool) (tl at0 st0 nu rm rh : Nat) (Th : Nat → Bool) (Ln Sz : Nat → Nat) (It : Nat → Int64) (sh : Nat) (wl i : Int32) (v : Int64) (hz : ∀ j, j < 4 → Sz j ≤ 24) (hl3 : ∀ j, j < 4 → Ln j ≤ 3) (hs4 : sh < 4) (hwl : inb wl 4 = true) (href : ¬ refI (Th sh) (Ln sh) (Sz sh) wl i (nI 1) = nI 0) : Met l yX5_item wsX5_item ({ frames := 2, cells := 0, slots := 0, locals := 45 }) (va_Pc [.ref m0, .int (nI sh), .int wl, .int i, .long v] (rB (dC, dI) vwCl [(m0, .inr (5, [.ref mw, .int (bi im), .ref mt, .int (nI tl), .ref ml, .ref mz, .ref mi, .ref mr, .int (nI at0), .int (nI st0), .int (nI nu), .int (nI rm), .int (nI rh), .ref md, .ref mh])), (ml, .inl (cI, 4, .inl (laF Th Ln))), (mz, .inl (cI, 4, .inl (nA Sz))), (mi, .inl (cJ, 96, .inr (.inl It)))] (tyz cI cJ cS))) (QcRead (refI (Th sh) (Ln sh) (Sz sh) wl i (nI 1))) 0 0 (fun _ => False) := by
  refine Met.ofW (cc := cX5_item) (maxL := 7) (ret := (some .int)) (by decide) rfl ?_
  intro p e s m args below meth c s₁ B hml hv
  obtain ⟨rfl, hP, hKK⟩ := hv
  have hK := hKK.1
  have hx := B.exec
  have hb := B.bytes
  have hr := B.returns
  have hts := atoms_spec (ws := wsX5_item) B.pre
  have hown : s.vm.findClass RX5 = some m.cls := findClass_of_methodNamed B.named
  have hlocks := B.notSynchronized
  have hiX5 : ∀ w ∈ wsX50, w ∈ wsX5_item := by decide +kernel
  have hl := lv_entry ([.ref m0, .int (nI sh), .int wl, .int i, .long v]) (n := 7) (Nat.le_of_ble_eq_true rfl)
  rw [lg_entry_eq]
  generalize (lg_sl ([.ref m0, .int (nI sh), .int wl, .int i, .long v]) ++ List.replicate (7 - (lg_sl ([.ref m0, .int (nI sh), .int wl, .int i, .long v])).length) Slot.unset).toArray = ls at hl ⊢
  have hl : lv_has ls 7 [(0, .ref m0), (1, .int (nI sh)), (2, .int wl), (3, .int i), (4, .long v)] := hl
  refine lv_iload_n hx hb dX5_item_0 rfl (lv_at hl 1 rfl) ?_
  refine rr_callR (va_runS (As := [.int (nI sh)]) (rest := []) ⟨hx, hb, hml, hown, hts⟩ (c_X5_isRegister l (nI sh) ) (va_cwS 1 hts gX5_item_X5_isRegister rfl rfl rfl (by decide +kernel) ⟨Nat.le_of_ble_eq_true rfl, Nat.le_of_ble_eq_true rfl⟩) rr_preT rfl rfl hl.1 rfl (lv_room (Nat.le_of_ble_eq_true rfl)) dX5_item_1 ⟨Nat.zero_le _, Nat.zero_le _⟩) ?_
  refine rr_top (y := bi true) (congrArg bi (inb_lt (by omega) (by omega))) ?_
  refine rb_if_eq (tgt := 14) hx hb dX5_item_4 (by decide) (fun c4 => ?_) (fun c4 => ?_)
  · exact absurd c4 (by decide)
  refine lv_iload_n hx hb dX5_item_7 rfl (lv_at hl 2 rfl) ?_
  refine rr_callR (va_runS (As := [.int wl]) (rest := []) ⟨hx, hb, hml, hown, hts⟩ (c_X5_isLane l wl ) (va_cwS 1 hts gX5_item_X5_isLane rfl rfl rfl (by decide +kernel) ⟨Nat.le_of_ble_eq_true rfl, Nat.le_of_ble_eq_true rfl⟩) rr_preT rfl rfl hl.1 rfl (lv_room (Nat.le_of_ble_eq_true rfl)) dX5_item_8 ⟨Nat.zero_le _, Nat.zero_le _⟩) ?_
  refine rr_top (y := (bi true)) (congrArg bi hwl) ?_
  refine rb_if_ne (tgt := 16) hx hb dX5_item_11 (by decide) (fun c11 => ?_) (fun c11 => ?_)
  rotate_left
  · exact absurd c11 (by decide)
  refine lv_aload_n hx hb dX5_item_16 rfl (lv_at hl 0 rfl) ?_
  refine lv_iload_n hx hb dX5_item_17 rfl (lv_at hl 1 rfl) ?_
  refine lv_iload_n hx hb dX5_item_18 rfl (lv_at hl 2 rfl) ?_
  refine lv_iload_n hx hb dX5_item_19 rfl (lv_at hl 3 rfl) ?_
  refine lv_iconst (v := (nI 1)) hx hb dX5_item_20 (by decide) ?_
  refine rr_callR (va_runV (As := [.int (nI sh), .int wl, .int i, .int (nI 1)]) (rest := []) ⟨hx, hb, hml, hown, hts⟩ (c_X5_against l dC dI cI cJ cS m0 mw mt ml mz mi mr md mh im tl at0 st0 nu rm rh Th Ln Sz sh wl i (nI 1) (by first | assumption | omega) (by first | assumption | omega) (by first | assumption | omega)) (cwV 4 hts gX5_item_X5_against rfl rfl rfl (by decide +kernel) ⟨Nat.le_of_ble_eq_true rfl, Nat.le_of_ble_eq_true rfl⟩) (rr_preV hKK (hP.sub [0, 1, 2] rfl) rfl rfl) rfl rfl hl.1 rfl (lv_room (Nat.le_of_ble_eq_true rfl)) dX5_item_21 ⟨Nat.zero_le _, Nat.zero_le _⟩) ?_
  refine lv_istore (lv' := [(6, .int (refI (Th sh) (Ln sh) (Sz sh) wl i (nI 1))), (0, .ref m0), (1, .int (nI sh)), (2, .int wl), (3, .int i), (4, .long v)]) hx hb dX5_item_24 hl (by decide) rfl (fun ls hl => ?_)
  refine lv_iload hx hb dX5_item_26 (lv_at hl 0 rfl) ?_
  refine lv_if_ge (tgt := 34) hx hb dX5_item_28 (by decide) (fun c28 => ?_) (fun c28 => ?_)
  · skip
    exact absurd c28 (refI_neg href)
  refine lv_iload hx hb dX5_item_31 (lv_at hl 0 rfl) ?_
  exact rr_iret hx hb hr hlocks dX5_item_33 (rfl)
set_option maxHeartbeats 4000000 in
set_option maxRecDepth 100000 in
theorem c_X5_item_b (l : Launch) (dC : Nat → ClassId) (dI : Nat → Nat → Nat) (cI cJ cS : ClassId) (m0 mw mt ml mz mi mr md mh : Nat) (im : Bool) (tl at0 st0 nu rm rh : Nat) (Bw : Nat → Nat) (x y i : Int32) (v : Int64) (hbad : (inb x 4 && inb y 4) = false) : Met l yX5_item wsX5_item ({ frames := 2, cells := 0, slots := 0, locals := 45 }) (va_Pc [.ref m0, .int x, .int y, .int i, .long v] (rB (dC, dI) vwCl [(m0, .inr (5, [.ref mw, .int (bi im), .ref mt, .int (nI tl), .ref ml, .ref mz, .ref mi, .ref mr, .int (nI at0), .int (nI st0), .int (nI nu), .int (nI rm), .int (nI rh), .ref md, .ref mh])), (mw, .inl (cI, 480, .inl (nA Bw)))] (tyz cI cJ cS))) (QcRead (-1)) 0 0 (fun _ => False) := by
  refine Met.ofW (cc := cX5_item) (maxL := 7) (ret := (some .int)) (by decide) rfl ?_
  intro p e s m args below meth c s₁ B hml hv
  obtain ⟨rfl, hP, hKK⟩ := hv
  have hK := hKK.1
  have hx := B.exec
  have hb := B.bytes
  have hr := B.returns
  have hts := atoms_spec (ws := wsX5_item) B.pre
  have hown : s.vm.findClass RX5 = some m.cls := findClass_of_methodNamed B.named
  have hlocks := B.notSynchronized
  have hiX5 : ∀ w ∈ wsX50, w ∈ wsX5_item := by decide +kernel
  have hl := lv_entry ([.ref m0, .int x, .int y, .int i, .long v]) (n := 7) (Nat.le_of_ble_eq_true rfl)
  rw [lg_entry_eq]
  generalize (lg_sl ([.ref m0, .int x, .int y, .int i, .long v]) ++ List.replicate (7 - (lg_sl ([.ref m0, .int x, .int y, .int i, .long v])).length) Slot.unset).toArray = ls at hl ⊢
  have hl : lv_has ls 7 [(0, .ref m0), (1, .int x), (2, .int y), (3, .int i), (4, .long v)] := hl
  refine lv_iload_n hx hb dX5_item_0 rfl (lv_at hl 1 rfl) ?_
  refine rr_callR (va_runS (As := [.int x]) (rest := []) ⟨hx, hb, hml, hown, hts⟩ (c_X5_isRegister l x ) (va_cwS 1 hts gX5_item_X5_isRegister rfl rfl rfl (by decide +kernel) ⟨Nat.le_of_ble_eq_true rfl, Nat.le_of_ble_eq_true rfl⟩) rr_preT rfl rfl hl.1 rfl (lv_room (Nat.le_of_ble_eq_true rfl)) dX5_item_1 ⟨Nat.zero_le _, Nat.zero_le _⟩) ?_
  refine rb_if_eq (tgt := 14) hx hb dX5_item_4 (by decide) (fun c4 => ?_) (fun c4 => ?_)
  · skip
    refine lv_iconst (v := (-1)) hx hb dX5_item_14 (by decide) ?_
    exact rr_iret hx hb hr hlocks dX5_item_15 (rfl)
  refine lv_iload_n hx hb dX5_item_7 rfl (lv_at hl 2 rfl) ?_
  refine rr_callR (va_runS (As := [.int y]) (rest := []) ⟨hx, hb, hml, hown, hts⟩ (c_X5_isLane l y ) (va_cwS 1 hts gX5_item_X5_isLane rfl rfl rfl (by decide +kernel) ⟨Nat.le_of_ble_eq_true rfl, Nat.le_of_ble_eq_true rfl⟩) rr_preT rfl rfl hl.1 rfl (lv_room (Nat.le_of_ble_eq_true rfl)) dX5_item_8 ⟨Nat.zero_le _, Nat.zero_le _⟩) ?_
  refine rb_if_ne (tgt := 16) hx hb dX5_item_11 (by decide) (fun c11 => ?_) (fun c11 => ?_)
  · skip
    exact absurd hbad (by rw [c4, c11]; decide)
  refine lv_iconst (v := (-1)) hx hb dX5_item_14 (by decide) ?_
  exact rr_iret hx hb hr hlocks dX5_item_15 (rfl)
set_option maxHeartbeats 4000000 in
set_option maxRecDepth 100000 in
theorem c_X5_copy_g (l : Launch) (dC : Nat → ClassId) (dI : Nat → Nat → Nat) (cI cJ cS : ClassId) (sz : Nat) (m0 mw mt ml mz mi mr md mh : Nat) (im : Bool) (tl at0 st0 nu rm rh : Nat) (Th : Nat → Bool) (Ln Sz : Nat → Nat) (It Hl : Nat → Int64) (sh a g b t : Nat) (hz : ∀ j, j < 4 → Sz j ≤ 24) (hl3 : ∀ j, j < 4 → Ln j ≤ 3) (hs4 : sh < 4) (hg4 : g < 4) (hth : Th sh = true) (htg : Th g = true) (hln : Ln sh = Ln g) (has : a + t ≤ Sz sh) (hbs : b + t ≤ Sz g) : Met l yX5_copy wsX5_copy ({ frames := 2, cells := 0, slots := 0, locals := 45 }) (va_Pc [.ref m0, .int (nI sh), .int (nI a), .int (nI g), .int (nI b), .int (nI t)] (rW (dC, dI) vwCl [(m0, .inr (5, [.ref mw, .int (bi im), .ref mt, .int (nI tl), .ref ml, .ref mz, .ref mi, .ref mr, .int (nI at0), .int (nI st0), .int (nI nu), .int (nI rm), .int (nI rh), .ref md, .ref mh])), (ml, .inl (cI, 4, .inl (laF Th Ln))), (mz, .inl (cI, 4, .inl (nA Sz))), (mi, .inl (cJ, 96, .inr (.inl It))), (mh, .inl (cJ, 24, .inr (.inl Hl)))] (tyz cI cJ cS) sz)) (qI (nI t) (dC, dI) vwCl [(m0, .inr (5, [.ref mw, .int (bi im), .ref mt, .int (nI tl), .ref ml, .ref mz, .ref mi, .ref mr, .int (nI at0), .int (nI st0), .int (nI nu), .int (nI rm), .int (nI rh), .ref md, .ref mh])), (ml, .inl (cI, 4, .inl (laF Th Ln))), (mz, .inl (cI, 4, .inl (nA Sz))), (mi, .inl (cJ, 96, .inr (.inl (flI It (24 * g + b) (fun k => It (24 * sh + a + k)) t)))), (mh, .inl (cJ, 24, .inr (.inl (flI Hl 0 (fun k => It (24 * sh + a + k)) t))))] (va_A [(m0, .inr (5, [.ref mw, .int (bi im), .ref mt, .int (nI tl), .ref ml, .ref mz, .ref mi, .ref mr, .int (nI at0), .int (nI st0), .int (nI nu), .int (nI rm), .int (nI rh), .ref md, .ref mh])), (ml, .inl (cI, 4, .inl (laF Th Ln))), (mz, .inl (cI, 4, .inl (nA Sz))), (mi, .inl (cJ, 96, .inr (.inl It))), (mh, .inl (cJ, 24, .inr (.inl Hl)))] sz)) 0 0 (va_A [(m0, .inr (5, [.ref mw, .int (bi im), .ref mt, .int (nI tl), .ref ml, .ref mz, .ref mi, .ref mr, .int (nI at0), .int (nI st0), .int (nI nu), .int (nI rm), .int (nI rh), .ref md, .ref mh])), (ml, .inl (cI, 4, .inl (laF Th Ln))), (mz, .inl (cI, 4, .inl (nA Sz))), (mi, .inl (cJ, 96, .inr (.inl It))), (mh, .inl (cJ, 24, .inr (.inl Hl)))] sz) := by
  refine Met.ofW (cc := cX5_copy) (maxL := 7) (ret := (some .int)) (by decide) rfl ?_
  intro p e s m args below meth c s₁ B hml hv
  obtain ⟨rfl, hsz, hP, hKK, hD0⟩ := hv
  have hK := hKK.1
  have hx := B.exec
  have hb := B.bytes
  have hr := B.returns
  have hts := atoms_spec (ws := wsX5_copy) B.pre
  have hown : s.vm.findClass RX5 = some m.cls := findClass_of_methodNamed B.named
  have hlocks := B.notSynchronized
  subst hsz
  have hD := hD0.self (sz := s.heap.size)
  generalize hAe : va_A [(m0, .inr (5, [.ref mw, .int (bi im), .ref mt, .int (nI tl), .ref ml, .ref mz, .ref mi, .ref mr, .int (nI at0), .int (nI st0), .int (nI nu), .int (nI rm), .int (nI rh), .ref md, .ref mh])), (ml, .inl (cI, 4, .inl (laF Th Ln))), (mz, .inl (cI, 4, .inl (nA Sz))), (mi, .inl (cJ, 96, .inr (.inl It))), (mh, .inl (cJ, 24, .inr (.inl Hl)))] s.heap.size = A at hD ⊢
  have hA : ∀ q : Nat, s.heap.size ≤ q → A q := fun q h => by rw [← hAe]; exact Or.inr h
  have hS : va_S A s.heap s.heap [] := va_S.rf
  have hP : va_P (dC, dI) vwCl [(m0, .inr (5, [.ref mw, .int (bi im), .ref mt, .int (nI tl), .ref ml, .ref mz, .ref mi, .ref mr, .int (nI at0), .int (nI st0), .int (nI nu), .int (nI rm), .int (nI rh), .ref md, .ref mh])), (ml, .inl (cI, 4, .inl (laF Th Ln))), (mz, .inl (cI, 4, .inl (nA Sz))), (mi, .inl (cJ, 96, .inr (.inl It))), (mh, .inl (cJ, 24, .inr (.inl Hl)))] s.heap := hP
  have hiX5 : ∀ w ∈ wsX50, w ∈ wsX5_copy := by decide +kernel
  have hl := lv_entry ([.ref m0, .int (nI sh), .int (nI a), .int (nI g), .int (nI b), .int (nI t)]) (n := 7) (Nat.le_of_ble_eq_true rfl)
  rw [lg_entry_eq]
  generalize (lg_sl ([.ref m0, .int (nI sh), .int (nI a), .int (nI g), .int (nI b), .int (nI t)]) ++ List.replicate (7 - (lg_sl ([.ref m0, .int (nI sh), .int (nI a), .int (nI g), .int (nI b), .int (nI t)])).length) Slot.unset).toArray = ls at hl ⊢
  have hl : lv_has ls 7 [(0, .ref m0), (1, .int (nI sh)), (2, .int (nI a)), (3, .int (nI g)), (4, .int (nI b)), (5, .int (nI t))] := hl
  have hzs := hz sh hs4
  have hzg := hz g hg4
  have hls := hl3 sh hs4
  have hlg := hl3 g hg4
  refine lv_iload_n hx hb dX5_copy_0 rfl (lv_at hl 1 rfl) ?_
  refine rr_callR (va_runS (As := [.int (nI sh)]) (rest := []) ⟨hx, hb, hml, hown, hts⟩ (c_X5_isRegister l (nI sh) ) (va_cwS 1 hts gX5_copy_X5_isRegister rfl rfl rfl (by decide +kernel) ⟨Nat.le_of_ble_eq_true rfl, Nat.le_of_ble_eq_true rfl⟩) rr_preT rfl rfl hl.1 rfl (lv_room (Nat.le_of_ble_eq_true rfl)) dX5_copy_1 ⟨Nat.zero_le _, Nat.zero_le _⟩) ?_
  refine rr_top (y := bi true) (congrArg bi (inb_lt (by omega) (by omega))) ?_
  refine rb_if_eq (tgt := 14) hx hb dX5_copy_4 (by decide) (fun c4 => ?_) (fun c4 => ?_)
  · exact absurd c4 (by decide)
  refine lv_iload_n hx hb dX5_copy_7 rfl (lv_at hl 3 rfl) ?_
  refine rr_callR (va_runS (As := [.int (nI g)]) (rest := []) ⟨hx, hb, hml, hown, hts⟩ (c_X5_isRegister l (nI g) ) (va_cwS 1 hts gX5_copy_X5_isRegister rfl rfl rfl (by decide +kernel) ⟨Nat.le_of_ble_eq_true rfl, Nat.le_of_ble_eq_true rfl⟩) rr_preT rfl rfl hl.1 rfl (lv_room (Nat.le_of_ble_eq_true rfl)) dX5_copy_8 ⟨Nat.zero_le _, Nat.zero_le _⟩) ?_
  refine rr_top (y := bi true) (congrArg bi (inb_lt (by omega) (by omega))) ?_
  refine rb_if_ne (tgt := 16) hx hb dX5_copy_11 (by decide) (fun c11 => ?_) (fun c11 => ?_)
  rotate_left
  · exact absurd c11 (by decide)
  refine lv_aload_n hx hb dX5_copy_16 rfl (lv_at hl 0 rfl) ?_
  refine va_get (D := (dC, dI)) (ci := 5) (v := .ref ml) (C := RX5) (T := TX5) (N := 15) hx hb hts hiX5 hown hK hP 0 rfl rfl 4 (by decide) (hts (.fieldLink RX5 16 "RestRegistersModel" "lane" "[I") (by decide +kernel)) (fun _ h9 => h9) rfl dX5_copy_17 ?_
  refine lv_iload_n hx hb dX5_copy_20 rfl (lv_at hl 1 rfl) ?_
  refine rn_iald hx hb hK hP 1 0 rfl rfl (i := sh) (by omega) (by decide) (v := ((laF Th Ln) sh)) rfl dX5_copy_21 ?_
  refine lv_if_lt (tgt := 34) hx hb dX5_copy_22 (by decide) (fun c22 => ?_) (fun c22 => ?_)
  · skip
    first | exact absurd c22 (by rw [laF_e hth]; exact nI_pos (by omega)) | exact absurd (by rw [laF_e htg]; exact nI_pos' (by omega)) c31
  refine lv_aload_n hx hb dX5_copy_25 rfl (lv_at hl 0 rfl) ?_
  refine va_get (D := (dC, dI)) (ci := 5) (v := .ref ml) (C := RX5) (T := TX5) (N := 15) hx hb hts hiX5 hown hK hP 0 rfl rfl 4 (by decide) (hts (.fieldLink RX5 16 "RestRegistersModel" "lane" "[I") (by decide +kernel)) (fun _ h9 => h9) rfl dX5_copy_26 ?_
  refine lv_iload_n hx hb dX5_copy_29 rfl (lv_at hl 3 rfl) ?_
  refine rn_iald hx hb hK hP 1 0 rfl rfl (i := g) (by omega) (by decide) (v := ((laF Th Ln) g)) rfl dX5_copy_30 ?_
  refine lv_if_ge (tgt := 37) hx hb dX5_copy_31 (by decide) (fun c31 => ?_) (fun c31 => ?_)
  · skip
    refine lv_aload_n hx hb dX5_copy_37 rfl (lv_at hl 0 rfl) ?_
    refine va_get (D := (dC, dI)) (ci := 5) (v := .ref ml) (C := RX5) (T := TX5) (N := 15) hx hb hts hiX5 hown hK hP 0 rfl rfl 4 (by decide) (hts (.fieldLink RX5 16 "RestRegistersModel" "lane" "[I") (by decide +kernel)) (fun _ h9 => h9) rfl dX5_copy_38 ?_
    refine lv_iload_n hx hb dX5_copy_41 rfl (lv_at hl 1 rfl) ?_
    refine rn_iald hx hb hK hP 1 0 rfl rfl (i := sh) (by omega) (by decide) (v := ((laF Th Ln) sh)) rfl dX5_copy_42 ?_
    refine lv_aload_n hx hb dX5_copy_43 rfl (lv_at hl 0 rfl) ?_
    refine va_get (D := (dC, dI)) (ci := 5) (v := .ref ml) (C := RX5) (T := TX5) (N := 15) hx hb hts hiX5 hown hK hP 0 rfl rfl 4 (by decide) (hts (.fieldLink RX5 16 "RestRegistersModel" "lane" "[I") (by decide +kernel)) (fun _ h9 => h9) rfl dX5_copy_44 ?_
    refine lv_iload_n hx hb dX5_copy_47 rfl (lv_at hl 3 rfl) ?_
    refine rn_iald hx hb hK hP 1 0 rfl rfl (i := g) (by omega) (by decide) (v := ((laF Th Ln) g)) rfl dX5_copy_48 ?_
    refine lv_icmp_eq (tgt := 55) hx hb dX5_copy_49 (by decide) (fun c49 => ?_) (fun c49 => ?_)
    · skip
      refine lv_aload_n hx hb dX5_copy_55 rfl (lv_at hl 0 rfl) ?_
      refine lv_iload_n hx hb dX5_copy_56 rfl (lv_at hl 1 rfl) ?_
      refine lv_aload_n hx hb dX5_copy_57 rfl (lv_at hl 0 rfl) ?_
      refine va_get (D := (dC, dI)) (ci := 5) (v := .ref ml) (C := RX5) (T := TX5) (N := 15) hx hb hts hiX5 hown hK hP 0 rfl rfl 4 (by decide) (hts (.fieldLink RX5 16 "RestRegistersModel" "lane" "[I") (by decide +kernel)) (fun _ h9 => h9) rfl dX5_copy_58 ?_
      refine lv_iload_n hx hb dX5_copy_61 rfl (lv_at hl 1 rfl) ?_
      refine rn_iald hx hb hK hP 1 0 rfl rfl (i := sh) (by omega) (by decide) (v := ((laF Th Ln) sh)) rfl dX5_copy_62 ?_
      refine lv_iload_n hx hb dX5_copy_63 rfl (lv_at hl 2 rfl) ?_
      refine lv_iload hx hb dX5_copy_64 (lv_at hl 5 rfl) ?_
      refine rr_callR (va_runV (As := [.int (nI sh), .int ((laF Th Ln) sh), .int (nI a), .int (nI t)]) (rest := []) ⟨hx, hb, hml, hown, hts⟩ (c_X5_against l dC dI cI cJ cS m0 mw mt ml mz mi mr md mh im tl at0 st0 nu rm rh Th Ln Sz sh ((laF Th Ln) sh) (nI a) (nI t) (by first | assumption | omega) (by first | assumption | omega) (by first | assumption | omega)) (cwV 4 hts gX5_copy_X5_against rfl rfl rfl (by decide +kernel) ⟨Nat.le_of_ble_eq_true rfl, Nat.le_of_ble_eq_true rfl⟩) (rr_preV hKK (hP.sub [0, 1, 2] rfl) rfl rfl) rfl rfl hl.1 rfl (lv_room (Nat.le_of_ble_eq_true rfl)) dX5_copy_66 ⟨Nat.zero_le _, Nat.zero_le _⟩) ?_
      refine rr_top (y := nI 0) (by unfold refI; rw [if_neg (by rw [hth]; decide), if_pos (laF_e hth).symm, hasS_nI (by omega) (by omega), decide_eq_true has]; rfl) ?_
      refine rn_if_lt (tgt := 90) hx hb dX5_copy_69 (by decide) (by omega) ?_
      refine lv_aload_n hx hb dX5_copy_72 rfl (lv_at hl 0 rfl) ?_
      refine lv_iload_n hx hb dX5_copy_73 rfl (lv_at hl 3 rfl) ?_
      refine lv_aload_n hx hb dX5_copy_74 rfl (lv_at hl 0 rfl) ?_
      refine va_get (D := (dC, dI)) (ci := 5) (v := .ref ml) (C := RX5) (T := TX5) (N := 15) hx hb hts hiX5 hown hK hP 0 rfl rfl 4 (by decide) (hts (.fieldLink RX5 16 "RestRegistersModel" "lane" "[I") (by decide +kernel)) (fun _ h9 => h9) rfl dX5_copy_75 ?_
      refine lv_iload_n hx hb dX5_copy_78 rfl (lv_at hl 3 rfl) ?_
      refine rn_iald hx hb hK hP 1 0 rfl rfl (i := g) (by omega) (by decide) (v := ((laF Th Ln) g)) rfl dX5_copy_79 ?_
      refine lv_iload hx hb dX5_copy_80 (lv_at hl 4 rfl) ?_
      refine lv_iload hx hb dX5_copy_82 (lv_at hl 5 rfl) ?_
      refine rr_callR (va_runV (As := [.int (nI g), .int ((laF Th Ln) g), .int (nI b), .int (nI t)]) (rest := []) ⟨hx, hb, hml, hown, hts⟩ (c_X5_against l dC dI cI cJ cS m0 mw mt ml mz mi mr md mh im tl at0 st0 nu rm rh Th Ln Sz g ((laF Th Ln) g) (nI b) (nI t) (by first | assumption | omega) (by first | assumption | omega) (by first | assumption | omega)) (cwV 4 hts gX5_copy_X5_against rfl rfl rfl (by decide +kernel) ⟨Nat.le_of_ble_eq_true rfl, Nat.le_of_ble_eq_true rfl⟩) (rr_preV hKK (hP.sub [0, 1, 2] rfl) rfl rfl) rfl rfl hl.1 rfl (lv_room (Nat.le_of_ble_eq_true rfl)) dX5_copy_84 ⟨Nat.zero_le _, Nat.zero_le _⟩) ?_
      refine rr_top (y := nI 0) (by unfold refI; rw [if_neg (by rw [htg]; decide), if_pos (laF_e htg).symm, hasS_nI (by omega) (by omega), decide_eq_true hbs]; rfl) ?_
      refine rn_if_ge (tgt := 93) hx hb dX5_copy_87 (by decide) (by omega) ?_
      refine lv_iconst (v := (nI 0)) hx hb dX5_copy_93 (by decide) ?_
      refine lv_istore (lv' := [(6, .int (nI 0)), (0, .ref m0), (1, .int (nI sh)), (2, .int (nI a)), (3, .int (nI g)), (4, .int (nI b)), (5, .int (nI t))]) hx hb dX5_copy_94 hl (by decide) rfl (fun ls hl => ?_)
      have ec : Hl = flI Hl 0 (fun k => It (24 * sh + a + k)) 0 := flI_0 _ _ _
      rw [ec] at hP hD
      have hP : va_P (dC, dI) vwCl [(m0, .inr (5, [.ref mw, .int (bi im), .ref mt, .int (nI tl), .ref ml, .ref mz, .ref mi, .ref mr, .int (nI at0), .int (nI st0), .int (nI nu), .int (nI rm), .int (nI rh), .ref md, .ref mh])), (ml, .inl (cI, 4, .inl (laF Th Ln))), (mz, .inl (cI, 4, .inl (nA Sz))), (mi, .inl (cJ, 96, .inr (.inl It))), (mh, .inl (cJ, 24, .inr (.inl (flI Hl 0 (fun k => It (24 * sh + a + k)) 0))))] s.heap := hP
      have hD : va_D A [(m0, .inr (5, [.ref mw, .int (bi im), .ref mt, .int (nI tl), .ref ml, .ref mz, .ref mi, .ref mr, .int (nI at0), .int (nI st0), .int (nI nu), .int (nI rm), .int (nI rh), .ref md, .ref mh])), (ml, .inl (cI, 4, .inl (laF Th Ln))), (mz, .inl (cI, 4, .inl (nA Sz))), (mi, .inl (cJ, 96, .inr (.inl It))), (mh, .inl (cJ, 24, .inr (.inl (flI Hl 0 (fun k => It (24 * sh + a + k)) 0))))] := hD
      refine rlW1 (A1 := Nat) (fun H locs ls => W p l e _ s m _ below meth c H locs 0 0 _ (F0 m 96 ls [])) (fun k H locs ls => k ≤ t ∧ va_P (dC, dI) vwCl [(m0, .inr (5, [.ref mw, .int (bi im), .ref mt, .int (nI tl), .ref ml, .ref mz, .ref mi, .ref mr, .int (nI at0), .int (nI st0), .int (nI nu), .int (nI rm), .int (nI rh), .ref md, .ref mh])), (ml, .inl (cI, 4, .inl (laF Th Ln))), (mz, .inl (cI, 4, .inl (nA Sz))), (mi, .inl (cJ, 96, .inr (.inl It))), (mh, .inl (cJ, 24, .inr (.inl (flI Hl 0 (fun k => It (24 * sh + a + k)) k))))] H ∧ va_D A [(m0, .inr (5, [.ref mw, .int (bi im), .ref mt, .int (nI tl), .ref ml, .ref mz, .ref mi, .ref mr, .int (nI at0), .int (nI st0), .int (nI nu), .int (nI rm), .int (nI rh), .ref md, .ref mh])), (ml, .inl (cI, 4, .inl (laF Th Ln))), (mz, .inl (cI, 4, .inl (nA Sz))), (mi, .inl (cJ, 96, .inr (.inl It))), (mh, .inl (cJ, 24, .inr (.inl (flI Hl 0 (fun k => It (24 * sh + a + k)) k))))] ∧ va_S A s.heap H locs ∧ lv_has ls 7 [(6, .int (nI k)), (0, .ref m0), (1, .int (nI sh)), (2, .int (nI a)), (3, .int (nI g)), (4, .int (nI b)), (5, .int (nI t))]) (fun k => t - k) ?_ 0 _ _ ls ⟨by omega, hP, hD, hS, lv_sub hl [0, 1, 2, 3, 4, 5, 6] rfl⟩
      rintro k H locs ls ⟨hi, hP, hD, hS, hl⟩ ih96
      refine lv_iload hx hb dX5_copy_96 (lv_at hl 0 rfl) ?_
      refine lv_iload hx hb dX5_copy_98 (lv_at hl 6 rfl) ?_
      refine rn_icmp_ge (tgt := 130) hx hb dX5_copy_100 (by decide) (by omega) (by omega) (fun c100 => ?_) (fun c100 => ?_)
      · skip
        have ek : k = t := Nat.le_antisymm hi c100
        subst ek
        refine lv_iconst (v := (nI 0)) hx hb dX5_copy_130 (by decide) ?_
        refine lv_istore (lv' := [(6, .int (nI 0)), (0, .ref m0), (1, .int (nI sh)), (2, .int (nI a)), (3, .int (nI g)), (4, .int (nI b)), (5, .int (nI k))]) hx hb dX5_copy_131 hl (by decide) rfl (fun ls hl => ?_)
        have ec : It = flI It (24 * g + b) (fun k => It (24 * sh + a + k)) 0 := flI_0 _ _ _
        have ew : ([(m0, .inr (5, [.ref mw, .int (bi im), .ref mt, .int (nI tl), .ref ml, .ref mz, .ref mi, .ref mr, .int (nI at0), .int (nI st0), .int (nI nu), .int (nI rm), .int (nI rh), .ref md, .ref mh])), (ml, .inl (cI, 4, .inl (laF Th Ln))), (mz, .inl (cI, 4, .inl (nA Sz))), (mi, .inl (cJ, 96, .inr (.inl It))), (mh, .inl (cJ, 24, .inr (.inl (flI Hl 0 (fun k => It (24 * sh + a + k)) k))))] : va_W) = [(m0, .inr (5, [.ref mw, .int (bi im), .ref mt, .int (nI tl), .ref ml, .ref mz, .ref mi, .ref mr, .int (nI at0), .int (nI st0), .int (nI nu), .int (nI rm), .int (nI rh), .ref md, .ref mh])), (ml, .inl (cI, 4, .inl (laF Th Ln))), (mz, .inl (cI, 4, .inl (nA Sz))), (mi, .inl (cJ, 96, .inr (.inl (flI It (24 * g + b) (fun k => It (24 * sh + a + k)) 0)))), (mh, .inl (cJ, 24, .inr (.inl (flI Hl 0 (fun k => It (24 * sh + a + k)) k))))] := congrArg (fun zq_ => ([(m0, .inr (5, [.ref mw, .int (bi im), .ref mt, .int (nI tl), .ref ml, .ref mz, .ref mi, .ref mr, .int (nI at0), .int (nI st0), .int (nI nu), .int (nI rm), .int (nI rh), .ref md, .ref mh])), (ml, .inl (cI, 4, .inl (laF Th Ln))), (mz, .inl (cI, 4, .inl (nA Sz))), (mi, .inl (cJ, 96, .inr (.inl zq_))), (mh, .inl (cJ, 24, .inr (.inl (flI Hl 0 (fun k => It (24 * sh + a + k)) k))))] : va_W)) ec
        rw [ew] at hP hD
        have hP : va_P (dC, dI) vwCl [(m0, .inr (5, [.ref mw, .int (bi im), .ref mt, .int (nI tl), .ref ml, .ref mz, .ref mi, .ref mr, .int (nI at0), .int (nI st0), .int (nI nu), .int (nI rm), .int (nI rh), .ref md, .ref mh])), (ml, .inl (cI, 4, .inl (laF Th Ln))), (mz, .inl (cI, 4, .inl (nA Sz))), (mi, .inl (cJ, 96, .inr (.inl (flI It (24 * g + b) (fun k => It (24 * sh + a + k)) 0)))), (mh, .inl (cJ, 24, .inr (.inl (flI Hl 0 (fun k => It (24 * sh + a + k)) k))))] H := hP
        have hD : va_D A [(m0, .inr (5, [.ref mw, .int (bi im), .ref mt, .int (nI tl), .ref ml, .ref mz, .ref mi, .ref mr, .int (nI at0), .int (nI st0), .int (nI nu), .int (nI rm), .int (nI rh), .ref md, .ref mh])), (ml, .inl (cI, 4, .inl (laF Th Ln))), (mz, .inl (cI, 4, .inl (nA Sz))), (mi, .inl (cJ, 96, .inr (.inl (flI It (24 * g + b) (fun k => It (24 * sh + a + k)) 0)))), (mh, .inl (cJ, 24, .inr (.inl (flI Hl 0 (fun k => It (24 * sh + a + k)) k))))] := hD
        refine rlW1 (A1 := Nat) (fun H locs ls => W p l e _ s m _ below meth c H locs 0 0 _ (F0 m 133 ls [])) (fun u H locs ls => u ≤ k ∧ va_P (dC, dI) vwCl [(m0, .inr (5, [.ref mw, .int (bi im), .ref mt, .int (nI tl), .ref ml, .ref mz, .ref mi, .ref mr, .int (nI at0), .int (nI st0), .int (nI nu), .int (nI rm), .int (nI rh), .ref md, .ref mh])), (ml, .inl (cI, 4, .inl (laF Th Ln))), (mz, .inl (cI, 4, .inl (nA Sz))), (mi, .inl (cJ, 96, .inr (.inl (flI It (24 * g + b) (fun k => It (24 * sh + a + k)) u)))), (mh, .inl (cJ, 24, .inr (.inl (flI Hl 0 (fun k => It (24 * sh + a + k)) k))))] H ∧ va_D A [(m0, .inr (5, [.ref mw, .int (bi im), .ref mt, .int (nI tl), .ref ml, .ref mz, .ref mi, .ref mr, .int (nI at0), .int (nI st0), .int (nI nu), .int (nI rm), .int (nI rh), .ref md, .ref mh])), (ml, .inl (cI, 4, .inl (laF Th Ln))), (mz, .inl (cI, 4, .inl (nA Sz))), (mi, .inl (cJ, 96, .inr (.inl (flI It (24 * g + b) (fun k => It (24 * sh + a + k)) u)))), (mh, .inl (cJ, 24, .inr (.inl (flI Hl 0 (fun k => It (24 * sh + a + k)) k))))] ∧ va_S A s.heap H locs ∧ lv_has ls 7 [(6, .int (nI u)), (0, .ref m0), (1, .int (nI sh)), (2, .int (nI a)), (3, .int (nI g)), (4, .int (nI b)), (5, .int (nI k))]) (fun u => k - u) ?_ 0 H locs ls ⟨by omega, hP, hD, hS, lv_sub hl [0, 1, 2, 3, 4, 5, 6] rfl⟩
        rintro u H locs ls ⟨hu, hP, hD, hS, hl⟩ ih133
        refine lv_iload hx hb dX5_copy_133 (lv_at hl 0 rfl) ?_
        refine lv_iload hx hb dX5_copy_135 (lv_at hl 6 rfl) ?_
        refine rn_icmp_ge (tgt := 168) hx hb dX5_copy_137 (by decide) (by omega) (by omega) (fun c137 => ?_) (fun c137 => ?_)
        · skip
          have ek : u = k := Nat.le_antisymm hu c137
          subst ek
          refine lv_iload hx hb dX5_copy_168 (lv_at hl 6 rfl) ?_
          exact rr_iretW hx hb hr hlocks dX5_copy_170 hP hD hS (rfl)
        refine lv_aload_n hx hb dX5_copy_140 rfl (lv_at hl 1 rfl) ?_
        refine va_get (D := (dC, dI)) (ci := 5) (v := .ref mi) (C := RX5) (T := TX5) (N := 15) hx hb hts hiX5 hown hK hP 0 rfl rfl 6 (by decide) (hts (.fieldLink RX5 22 "RestRegistersModel" "items" "[J") (by decide +kernel)) (fun _ h9 => h9) rfl dX5_copy_141 ?_
        refine lv_bipush (v := (nI 24)) hx hb dX5_copy_144 (by decide) ?_
        refine lv_iload_n hx hb dX5_copy_146 rfl (lv_at hl 4 rfl) ?_
        refine rn_imul hx hb dX5_copy_147 ?_
        refine lv_iload hx hb dX5_copy_148 (lv_at hl 5 rfl) ?_
        refine rn_iadd hx hb dX5_copy_150 ?_
        refine lv_iload hx hb dX5_copy_151 (lv_at hl 0 rfl) ?_
        refine rn_iadd hx hb dX5_copy_153 ?_
        refine lv_aload_n hx hb dX5_copy_154 rfl (lv_at hl 1 rfl) ?_
        refine va_get (D := (dC, dI)) (ci := 5) (v := .ref mh) (C := RX5) (T := TX5) (N := 15) hx hb hts hiX5 hown hK hP 0 rfl rfl 14 (by decide) (hts (.fieldLink RX5 32 "RestRegistersModel" "held" "[J") (by decide +kernel)) (fun _ h9 => h9) rfl dX5_copy_155 ?_
        refine lv_iload hx hb dX5_copy_158 (lv_at hl 0 rfl) ?_
        refine rn_lald hx hb hK hP 4 1 rfl rfl (i := u) (by omega) (by decide) (v := (It (24 * sh + a + u))) ((flI_in (by omega)).trans (by rw [Nat.sub_zero])) dX5_copy_160 ?_
        refine rn_last hx hb hK hP hD hS 3 1 rfl rfl (i := 24 * g + b + u) (by omega) (by decide) (g := flI It (24 * g + b) (fun k => It (24 * sh + a + k)) (u + 1)) (flI_s rfl rfl) dX5_copy_161 (fun H locs hP hD hS => ?_)
        have hP : va_P (dC, dI) vwCl [(m0, .inr (5, [.ref mw, .int (bi im), .ref mt, .int (nI tl), .ref ml, .ref mz, .ref mi, .ref mr, .int (nI at0), .int (nI st0), .int (nI nu), .int (nI rm), .int (nI rh), .ref md, .ref mh])), (ml, .inl (cI, 4, .inl (laF Th Ln))), (mz, .inl (cI, 4, .inl (nA Sz))), (mi, .inl (cJ, 96, .inr (.inl (flI It (24 * g + b) (fun k => It (24 * sh + a + k)) (u + 1))))), (mh, .inl (cJ, 24, .inr (.inl (flI Hl 0 (fun k => It (24 * sh + a + k)) k))))] H := hP
        have hD : va_D A [(m0, .inr (5, [.ref mw, .int (bi im), .ref mt, .int (nI tl), .ref ml, .ref mz, .ref mi, .ref mr, .int (nI at0), .int (nI st0), .int (nI nu), .int (nI rm), .int (nI rh), .ref md, .ref mh])), (ml, .inl (cI, 4, .inl (laF Th Ln))), (mz, .inl (cI, 4, .inl (nA Sz))), (mi, .inl (cJ, 96, .inr (.inl (flI It (24 * g + b) (fun k => It (24 * sh + a + k)) (u + 1))))), (mh, .inl (cJ, 24, .inr (.inl (flI Hl 0 (fun k => It (24 * sh + a + k)) k))))] := hD
        refine lv_iinc (v := (nI (u + 1))) (lv' := [(6, .int (nI (u + 1))), (0, .ref m0), (1, .int (nI sh)), (2, .int (nI a)), (3, .int (nI g)), (4, .int (nI b)), (5, .int (nI k))]) hx hb dX5_copy_162 hl (k := 0) rfl (rn_inc u 1) (by decide) rfl (fun ls hl => ?_)
        refine lv_goto (tgt := 133) hx hb dX5_copy_165 (by decide) ?_
        exact ih133 (u + 1) _ _ ls ⟨by omega, hP, hD, hS, lv_sub hl [0, 1, 2, 3, 4, 5, 6] rfl⟩ (by omega)
      refine lv_aload_n hx hb dX5_copy_103 rfl (lv_at hl 1 rfl) ?_
      refine va_get (D := (dC, dI)) (ci := 5) (v := .ref mh) (C := RX5) (T := TX5) (N := 15) hx hb hts hiX5 hown hK hP 0 rfl rfl 14 (by decide) (hts (.fieldLink RX5 32 "RestRegistersModel" "held" "[J") (by decide +kernel)) (fun _ h9 => h9) rfl dX5_copy_104 ?_
      refine lv_iload hx hb dX5_copy_107 (lv_at hl 0 rfl) ?_
      refine lv_aload_n hx hb dX5_copy_109 rfl (lv_at hl 1 rfl) ?_
      refine va_get (D := (dC, dI)) (ci := 5) (v := .ref mi) (C := RX5) (T := TX5) (N := 15) hx hb hts hiX5 hown hK hP 0 rfl rfl 6 (by decide) (hts (.fieldLink RX5 22 "RestRegistersModel" "items" "[J") (by decide +kernel)) (fun _ h9 => h9) rfl dX5_copy_110 ?_
      refine lv_bipush (v := (nI 24)) hx hb dX5_copy_113 (by decide) ?_
      refine lv_iload_n hx hb dX5_copy_115 rfl (lv_at hl 2 rfl) ?_
      refine rn_imul hx hb dX5_copy_116 ?_
      refine lv_iload_n hx hb dX5_copy_117 rfl (lv_at hl 3 rfl) ?_
      refine rn_iadd hx hb dX5_copy_118 ?_
      refine lv_iload hx hb dX5_copy_119 (lv_at hl 0 rfl) ?_
      refine rn_iadd hx hb dX5_copy_121 ?_
      refine rn_lald hx hb hK hP 3 1 rfl rfl (i := 24 * sh + a + k) (by omega) (by decide) (v := (It (24 * sh + a + k))) rfl dX5_copy_122 ?_
      refine rn_last hx hb hK hP hD hS 4 1 rfl rfl (i := k) (by omega) (by decide) (g := flI Hl 0 (fun k => It (24 * sh + a + k)) (k + 1)) (flI_s (by rw [Nat.zero_add]) rfl) dX5_copy_123 (fun H locs hP hD hS => ?_)
      have hP : va_P (dC, dI) vwCl [(m0, .inr (5, [.ref mw, .int (bi im), .ref mt, .int (nI tl), .ref ml, .ref mz, .ref mi, .ref mr, .int (nI at0), .int (nI st0), .int (nI nu), .int (nI rm), .int (nI rh), .ref md, .ref mh])), (ml, .inl (cI, 4, .inl (laF Th Ln))), (mz, .inl (cI, 4, .inl (nA Sz))), (mi, .inl (cJ, 96, .inr (.inl It))), (mh, .inl (cJ, 24, .inr (.inl (flI Hl 0 (fun k => It (24 * sh + a + k)) (k + 1)))))] H := hP
      have hD : va_D A [(m0, .inr (5, [.ref mw, .int (bi im), .ref mt, .int (nI tl), .ref ml, .ref mz, .ref mi, .ref mr, .int (nI at0), .int (nI st0), .int (nI nu), .int (nI rm), .int (nI rh), .ref md, .ref mh])), (ml, .inl (cI, 4, .inl (laF Th Ln))), (mz, .inl (cI, 4, .inl (nA Sz))), (mi, .inl (cJ, 96, .inr (.inl It))), (mh, .inl (cJ, 24, .inr (.inl (flI Hl 0 (fun k => It (24 * sh + a + k)) (k + 1)))))] := hD
      refine lv_iinc (v := (nI (k + 1))) (lv' := [(6, .int (nI (k + 1))), (0, .ref m0), (1, .int (nI sh)), (2, .int (nI a)), (3, .int (nI g)), (4, .int (nI b)), (5, .int (nI t))]) hx hb dX5_copy_124 hl (k := 0) rfl (rn_inc k 1) (by decide) rfl (fun ls hl => ?_)
      refine lv_goto (tgt := 96) hx hb dX5_copy_127 (by decide) ?_
      exact ih96 (k + 1) _ _ ls ⟨by omega, hP, hD, hS, lv_sub hl [0, 1, 2, 3, 4, 5, 6] rfl⟩ (by omega)
    exact absurd (by rw [laF_e hth, laF_e htg, hln]) c49
  first | exact absurd c22 (by rw [laF_e hth]; exact nI_pos (by omega)) | exact absurd (by rw [laF_e htg]; exact nI_pos' (by omega)) c31
set_option maxHeartbeats 4000000 in
set_option maxRecDepth 100000 in
theorem c_X5_copy_b (l : Launch) (dC : Nat → ClassId) (dI : Nat → Nat → Nat) (cI cJ cS : ClassId) (m0 mw mt ml mz mi mr md mh : Nat) (im : Bool) (tl at0 st0 nu rm rh : Nat) (Bw : Nat → Nat) (x i y j z : Int32) (hbad : (inb x 4 && inb y 4) = false) : Met l yX5_copy wsX5_copy ({ frames := 2, cells := 0, slots := 0, locals := 45 }) (va_Pc [.ref m0, .int x, .int i, .int y, .int j, .int z] (rB (dC, dI) vwCl [(m0, .inr (5, [.ref mw, .int (bi im), .ref mt, .int (nI tl), .ref ml, .ref mz, .ref mi, .ref mr, .int (nI at0), .int (nI st0), .int (nI nu), .int (nI rm), .int (nI rh), .ref md, .ref mh])), (mw, .inl (cI, 480, .inl (nA Bw)))] (tyz cI cJ cS))) (QcRead (-1)) 0 0 (fun _ => False) := by
  refine Met.ofW (cc := cX5_copy) (maxL := 7) (ret := (some .int)) (by decide) rfl ?_
  intro p e s m args below meth c s₁ B hml hv
  obtain ⟨rfl, hP, hKK⟩ := hv
  have hK := hKK.1
  have hx := B.exec
  have hb := B.bytes
  have hr := B.returns
  have hts := atoms_spec (ws := wsX5_copy) B.pre
  have hown : s.vm.findClass RX5 = some m.cls := findClass_of_methodNamed B.named
  have hlocks := B.notSynchronized
  have hiX5 : ∀ w ∈ wsX50, w ∈ wsX5_copy := by decide +kernel
  have hl := lv_entry ([.ref m0, .int x, .int i, .int y, .int j, .int z]) (n := 7) (Nat.le_of_ble_eq_true rfl)
  rw [lg_entry_eq]
  generalize (lg_sl ([.ref m0, .int x, .int i, .int y, .int j, .int z]) ++ List.replicate (7 - (lg_sl ([.ref m0, .int x, .int i, .int y, .int j, .int z])).length) Slot.unset).toArray = ls at hl ⊢
  have hl : lv_has ls 7 [(0, .ref m0), (1, .int x), (2, .int i), (3, .int y), (4, .int j), (5, .int z)] := hl
  refine lv_iload_n hx hb dX5_copy_0 rfl (lv_at hl 1 rfl) ?_
  refine rr_callR (va_runS (As := [.int x]) (rest := []) ⟨hx, hb, hml, hown, hts⟩ (c_X5_isRegister l x ) (va_cwS 1 hts gX5_copy_X5_isRegister rfl rfl rfl (by decide +kernel) ⟨Nat.le_of_ble_eq_true rfl, Nat.le_of_ble_eq_true rfl⟩) rr_preT rfl rfl hl.1 rfl (lv_room (Nat.le_of_ble_eq_true rfl)) dX5_copy_1 ⟨Nat.zero_le _, Nat.zero_le _⟩) ?_
  refine rb_if_eq (tgt := 14) hx hb dX5_copy_4 (by decide) (fun c4 => ?_) (fun c4 => ?_)
  · skip
    refine lv_iconst (v := (-1)) hx hb dX5_copy_14 (by decide) ?_
    exact rr_iret hx hb hr hlocks dX5_copy_15 (rfl)
  refine lv_iload_n hx hb dX5_copy_7 rfl (lv_at hl 3 rfl) ?_
  refine rr_callR (va_runS (As := [.int y]) (rest := []) ⟨hx, hb, hml, hown, hts⟩ (c_X5_isRegister l y ) (va_cwS 1 hts gX5_copy_X5_isRegister rfl rfl rfl (by decide +kernel) ⟨Nat.le_of_ble_eq_true rfl, Nat.le_of_ble_eq_true rfl⟩) rr_preT rfl rfl hl.1 rfl (lv_room (Nat.le_of_ble_eq_true rfl)) dX5_copy_8 ⟨Nat.zero_le _, Nat.zero_le _⟩) ?_
  refine rb_if_ne (tgt := 16) hx hb dX5_copy_11 (by decide) (fun c11 => ?_) (fun c11 => ?_)
  · skip
    exact absurd hbad (by rw [c4, c11]; decide)
  refine lv_iconst (v := (-1)) hx hb dX5_copy_14 (by decide) ?_
  exact rr_iret hx hb hr hlocks dX5_copy_15 (rfl)
set_option maxHeartbeats 4000000 in
set_option maxRecDepth 100000 in
theorem c_X5_copy_n (l : Launch) (dC : Nat → ClassId) (dI : Nat → Nat → Nat) (cI cJ cS : ClassId) (m0 mw mt ml mz mi mr md mh : Nat) (im : Bool) (tl at0 st0 nu rm rh : Nat) (Th : Nat → Bool) (Ln Sz : Nat → Nat) (It Hl : Nat → Int64) (sh g : Nat) (i j z : Int32) (hz : ∀ j, j < 4 → Sz j ≤ 24) (hl3 : ∀ j, j < 4 → Ln j ≤ 3) (hs4 : sh < 4) (hg4 : g < 4) (hbad : (Th sh && Th g) = false) : Met l yX5_copy wsX5_copy ({ frames := 2, cells := 0, slots := 0, locals := 45 }) (va_Pc [.ref m0, .int (nI sh), .int i, .int (nI g), .int j, .int z] (rB (dC, dI) vwCl [(m0, .inr (5, [.ref mw, .int (bi im), .ref mt, .int (nI tl), .ref ml, .ref mz, .ref mi, .ref mr, .int (nI at0), .int (nI st0), .int (nI nu), .int (nI rm), .int (nI rh), .ref md, .ref mh])), (ml, .inl (cI, 4, .inl (laF Th Ln))), (mz, .inl (cI, 4, .inl (nA Sz))), (mi, .inl (cJ, 96, .inr (.inl It))), (mh, .inl (cJ, 24, .inr (.inl Hl)))] (tyz cI cJ cS))) (QcRead (-11)) 0 0 (fun _ => False) := by
  refine Met.ofW (cc := cX5_copy) (maxL := 7) (ret := (some .int)) (by decide) rfl ?_
  intro p e s m args below meth c s₁ B hml hv
  obtain ⟨rfl, hP, hKK⟩ := hv
  have hK := hKK.1
  have hx := B.exec
  have hb := B.bytes
  have hr := B.returns
  have hts := atoms_spec (ws := wsX5_copy) B.pre
  have hown : s.vm.findClass RX5 = some m.cls := findClass_of_methodNamed B.named
  have hlocks := B.notSynchronized
  have hiX5 : ∀ w ∈ wsX50, w ∈ wsX5_copy := by decide +kernel
  have hl := lv_entry ([.ref m0, .int (nI sh), .int i, .int (nI g), .int j, .int z]) (n := 7) (Nat.le_of_ble_eq_true rfl)
  rw [lg_entry_eq]
  generalize (lg_sl ([.ref m0, .int (nI sh), .int i, .int (nI g), .int j, .int z]) ++ List.replicate (7 - (lg_sl ([.ref m0, .int (nI sh), .int i, .int (nI g), .int j, .int z])).length) Slot.unset).toArray = ls at hl ⊢
  have hl : lv_has ls 7 [(0, .ref m0), (1, .int (nI sh)), (2, .int i), (3, .int (nI g)), (4, .int j), (5, .int z)] := hl
  refine lv_iload_n hx hb dX5_copy_0 rfl (lv_at hl 1 rfl) ?_
  refine rr_callR (va_runS (As := [.int (nI sh)]) (rest := []) ⟨hx, hb, hml, hown, hts⟩ (c_X5_isRegister l (nI sh) ) (va_cwS 1 hts gX5_copy_X5_isRegister rfl rfl rfl (by decide +kernel) ⟨Nat.le_of_ble_eq_true rfl, Nat.le_of_ble_eq_true rfl⟩) rr_preT rfl rfl hl.1 rfl (lv_room (Nat.le_of_ble_eq_true rfl)) dX5_copy_1 ⟨Nat.zero_le _, Nat.zero_le _⟩) ?_
  refine rr_top (y := bi true) (congrArg bi (inb_lt (by omega) (by omega))) ?_
  refine rb_if_eq (tgt := 14) hx hb dX5_copy_4 (by decide) (fun c4 => ?_) (fun c4 => ?_)
  · exact absurd c4 (by decide)
  refine lv_iload_n hx hb dX5_copy_7 rfl (lv_at hl 3 rfl) ?_
  refine rr_callR (va_runS (As := [.int (nI g)]) (rest := []) ⟨hx, hb, hml, hown, hts⟩ (c_X5_isRegister l (nI g) ) (va_cwS 1 hts gX5_copy_X5_isRegister rfl rfl rfl (by decide +kernel) ⟨Nat.le_of_ble_eq_true rfl, Nat.le_of_ble_eq_true rfl⟩) rr_preT rfl rfl hl.1 rfl (lv_room (Nat.le_of_ble_eq_true rfl)) dX5_copy_8 ⟨Nat.zero_le _, Nat.zero_le _⟩) ?_
  refine rr_top (y := bi true) (congrArg bi (inb_lt (by omega) (by omega))) ?_
  refine rb_if_ne (tgt := 16) hx hb dX5_copy_11 (by decide) (fun c11 => ?_) (fun c11 => ?_)
  rotate_left
  · exact absurd c11 (by decide)
  refine lv_aload_n hx hb dX5_copy_16 rfl (lv_at hl 0 rfl) ?_
  refine va_get (D := (dC, dI)) (ci := 5) (v := .ref ml) (C := RX5) (T := TX5) (N := 15) hx hb hts hiX5 hown hK hP 0 rfl rfl 4 (by decide) (hts (.fieldLink RX5 16 "RestRegistersModel" "lane" "[I") (by decide +kernel)) (fun _ h9 => h9) rfl dX5_copy_17 ?_
  refine lv_iload_n hx hb dX5_copy_20 rfl (lv_at hl 1 rfl) ?_
  refine rn_iald hx hb hK hP 1 0 rfl rfl (i := sh) (by omega) (by decide) (v := ((laF Th Ln) sh)) rfl dX5_copy_21 ?_
  refine lv_if_lt (tgt := 34) hx hb dX5_copy_22 (by decide) (fun c22 => ?_) (fun c22 => ?_)
  · skip
    refine lv_bipush (v := (-11)) hx hb dX5_copy_34 (by decide) ?_
    exact rr_iret hx hb hr hlocks dX5_copy_36 (rfl)
  refine lv_aload_n hx hb dX5_copy_25 rfl (lv_at hl 0 rfl) ?_
  refine va_get (D := (dC, dI)) (ci := 5) (v := .ref ml) (C := RX5) (T := TX5) (N := 15) hx hb hts hiX5 hown hK hP 0 rfl rfl 4 (by decide) (hts (.fieldLink RX5 16 "RestRegistersModel" "lane" "[I") (by decide +kernel)) (fun _ h9 => h9) rfl dX5_copy_26 ?_
  refine lv_iload_n hx hb dX5_copy_29 rfl (lv_at hl 3 rfl) ?_
  refine rn_iald hx hb hK hP 1 0 rfl rfl (i := g) (by omega) (by decide) (v := ((laF Th Ln) g)) rfl dX5_copy_30 ?_
  refine lv_if_ge (tgt := 37) hx hb dX5_copy_31 (by decide) (fun c31 => ?_) (fun c31 => ?_)
  · skip
    exact absurd hbad (by rw [laF_t (nlt_le c22), laF_t c31]; decide)
  refine lv_bipush (v := (-11)) hx hb dX5_copy_34 (by decide) ?_
  exact rr_iret hx hb hr hlocks dX5_copy_36 (rfl)
set_option maxHeartbeats 4000000 in
set_option maxRecDepth 100000 in
theorem c_X5_copy_c (l : Launch) (dC : Nat → ClassId) (dI : Nat → Nat → Nat) (cI cJ cS : ClassId) (m0 mw mt ml mz mi mr md mh : Nat) (im : Bool) (tl at0 st0 nu rm rh : Nat) (Th : Nat → Bool) (Ln Sz : Nat → Nat) (It Hl : Nat → Int64) (sh g : Nat) (i j z : Int32) (hz : ∀ j, j < 4 → Sz j ≤ 24) (hl3 : ∀ j, j < 4 → Ln j ≤ 3) (hs4 : sh < 4) (hg4 : g < 4) (hth : Th sh = true) (htg : Th g = true) (hln : Ln sh ≠ Ln g) : Met l yX5_copy wsX5_copy ({ frames := 2, cells := 0, slots := 0, locals := 45 }) (va_Pc [.ref m0, .int (nI sh), .int i, .int (nI g), .int j, .int z] (rB (dC, dI) vwCl [(m0, .inr (5, [.ref mw, .int (bi im), .ref mt, .int (nI tl), .ref ml, .ref mz, .ref mi, .ref mr, .int (nI at0), .int (nI st0), .int (nI nu), .int (nI rm), .int (nI rh), .ref md, .ref mh])), (ml, .inl (cI, 4, .inl (laF Th Ln))), (mz, .inl (cI, 4, .inl (nA Sz))), (mi, .inl (cJ, 96, .inr (.inl It))), (mh, .inl (cJ, 24, .inr (.inl Hl)))] (tyz cI cJ cS))) (QcRead (-12)) 0 0 (fun _ => False) := by
  refine Met.ofW (cc := cX5_copy) (maxL := 7) (ret := (some .int)) (by decide) rfl ?_
  intro p e s m args below meth c s₁ B hml hv
  obtain ⟨rfl, hP, hKK⟩ := hv
  have hK := hKK.1
  have hx := B.exec
  have hb := B.bytes
  have hr := B.returns
  have hts := atoms_spec (ws := wsX5_copy) B.pre
  have hown : s.vm.findClass RX5 = some m.cls := findClass_of_methodNamed B.named
  have hlocks := B.notSynchronized
  have hiX5 : ∀ w ∈ wsX50, w ∈ wsX5_copy := by decide +kernel
  have hl := lv_entry ([.ref m0, .int (nI sh), .int i, .int (nI g), .int j, .int z]) (n := 7) (Nat.le_of_ble_eq_true rfl)
  rw [lg_entry_eq]
  generalize (lg_sl ([.ref m0, .int (nI sh), .int i, .int (nI g), .int j, .int z]) ++ List.replicate (7 - (lg_sl ([.ref m0, .int (nI sh), .int i, .int (nI g), .int j, .int z])).length) Slot.unset).toArray = ls at hl ⊢
  have hl : lv_has ls 7 [(0, .ref m0), (1, .int (nI sh)), (2, .int i), (3, .int (nI g)), (4, .int j), (5, .int z)] := hl
  have hls := hl3 sh hs4
  have hlg := hl3 g hg4
  refine lv_iload_n hx hb dX5_copy_0 rfl (lv_at hl 1 rfl) ?_
  refine rr_callR (va_runS (As := [.int (nI sh)]) (rest := []) ⟨hx, hb, hml, hown, hts⟩ (c_X5_isRegister l (nI sh) ) (va_cwS 1 hts gX5_copy_X5_isRegister rfl rfl rfl (by decide +kernel) ⟨Nat.le_of_ble_eq_true rfl, Nat.le_of_ble_eq_true rfl⟩) rr_preT rfl rfl hl.1 rfl (lv_room (Nat.le_of_ble_eq_true rfl)) dX5_copy_1 ⟨Nat.zero_le _, Nat.zero_le _⟩) ?_
  refine rr_top (y := bi true) (congrArg bi (inb_lt (by omega) (by omega))) ?_
  refine rb_if_eq (tgt := 14) hx hb dX5_copy_4 (by decide) (fun c4 => ?_) (fun c4 => ?_)
  · exact absurd c4 (by decide)
  refine lv_iload_n hx hb dX5_copy_7 rfl (lv_at hl 3 rfl) ?_
  refine rr_callR (va_runS (As := [.int (nI g)]) (rest := []) ⟨hx, hb, hml, hown, hts⟩ (c_X5_isRegister l (nI g) ) (va_cwS 1 hts gX5_copy_X5_isRegister rfl rfl rfl (by decide +kernel) ⟨Nat.le_of_ble_eq_true rfl, Nat.le_of_ble_eq_true rfl⟩) rr_preT rfl rfl hl.1 rfl (lv_room (Nat.le_of_ble_eq_true rfl)) dX5_copy_8 ⟨Nat.zero_le _, Nat.zero_le _⟩) ?_
  refine rr_top (y := bi true) (congrArg bi (inb_lt (by omega) (by omega))) ?_
  refine rb_if_ne (tgt := 16) hx hb dX5_copy_11 (by decide) (fun c11 => ?_) (fun c11 => ?_)
  rotate_left
  · exact absurd c11 (by decide)
  refine lv_aload_n hx hb dX5_copy_16 rfl (lv_at hl 0 rfl) ?_
  refine va_get (D := (dC, dI)) (ci := 5) (v := .ref ml) (C := RX5) (T := TX5) (N := 15) hx hb hts hiX5 hown hK hP 0 rfl rfl 4 (by decide) (hts (.fieldLink RX5 16 "RestRegistersModel" "lane" "[I") (by decide +kernel)) (fun _ h9 => h9) rfl dX5_copy_17 ?_
  refine lv_iload_n hx hb dX5_copy_20 rfl (lv_at hl 1 rfl) ?_
  refine rn_iald hx hb hK hP 1 0 rfl rfl (i := sh) (by omega) (by decide) (v := ((laF Th Ln) sh)) rfl dX5_copy_21 ?_
  refine lv_if_lt (tgt := 34) hx hb dX5_copy_22 (by decide) (fun c22 => ?_) (fun c22 => ?_)
  · skip
    first | exact absurd c22 (by rw [laF_e hth]; exact nI_pos (by omega)) | exact absurd (by rw [laF_e htg]; exact nI_pos' (by omega)) c31
  refine lv_aload_n hx hb dX5_copy_25 rfl (lv_at hl 0 rfl) ?_
  refine va_get (D := (dC, dI)) (ci := 5) (v := .ref ml) (C := RX5) (T := TX5) (N := 15) hx hb hts hiX5 hown hK hP 0 rfl rfl 4 (by decide) (hts (.fieldLink RX5 16 "RestRegistersModel" "lane" "[I") (by decide +kernel)) (fun _ h9 => h9) rfl dX5_copy_26 ?_
  refine lv_iload_n hx hb dX5_copy_29 rfl (lv_at hl 3 rfl) ?_
  refine rn_iald hx hb hK hP 1 0 rfl rfl (i := g) (by omega) (by decide) (v := ((laF Th Ln) g)) rfl dX5_copy_30 ?_
  refine lv_if_ge (tgt := 37) hx hb dX5_copy_31 (by decide) (fun c31 => ?_) (fun c31 => ?_)
  · skip
    refine lv_aload_n hx hb dX5_copy_37 rfl (lv_at hl 0 rfl) ?_
    refine va_get (D := (dC, dI)) (ci := 5) (v := .ref ml) (C := RX5) (T := TX5) (N := 15) hx hb hts hiX5 hown hK hP 0 rfl rfl 4 (by decide) (hts (.fieldLink RX5 16 "RestRegistersModel" "lane" "[I") (by decide +kernel)) (fun _ h9 => h9) rfl dX5_copy_38 ?_
    refine lv_iload_n hx hb dX5_copy_41 rfl (lv_at hl 1 rfl) ?_
    refine rn_iald hx hb hK hP 1 0 rfl rfl (i := sh) (by omega) (by decide) (v := ((laF Th Ln) sh)) rfl dX5_copy_42 ?_
    refine lv_aload_n hx hb dX5_copy_43 rfl (lv_at hl 0 rfl) ?_
    refine va_get (D := (dC, dI)) (ci := 5) (v := .ref ml) (C := RX5) (T := TX5) (N := 15) hx hb hts hiX5 hown hK hP 0 rfl rfl 4 (by decide) (hts (.fieldLink RX5 16 "RestRegistersModel" "lane" "[I") (by decide +kernel)) (fun _ h9 => h9) rfl dX5_copy_44 ?_
    refine lv_iload_n hx hb dX5_copy_47 rfl (lv_at hl 3 rfl) ?_
    refine rn_iald hx hb hK hP 1 0 rfl rfl (i := g) (by omega) (by decide) (v := ((laF Th Ln) g)) rfl dX5_copy_48 ?_
    refine lv_icmp_eq (tgt := 55) hx hb dX5_copy_49 (by decide) (fun c49 => ?_) (fun c49 => ?_)
    · skip
      exact absurd ((nI_eq (by omega) (by omega)).mp ((laF_e hth).symm.trans (c49.trans (laF_e htg)))) hln
    refine lv_bipush (v := (-12)) hx hb dX5_copy_52 (by decide) ?_
    exact rr_iret hx hb hr hlocks dX5_copy_54 (rfl)
  first | exact absurd c22 (by rw [laF_e hth]; exact nI_pos (by omega)) | exact absurd (by rw [laF_e htg]; exact nI_pos' (by omega)) c31
set_option maxHeartbeats 4000000 in
set_option maxRecDepth 100000 in
theorem c_X5_copy_i (l : Launch) (dC : Nat → ClassId) (dI : Nat → Nat → Nat) (cI cJ cS : ClassId) (m0 mw mt ml mz mi mr md mh : Nat) (im : Bool) (tl at0 st0 nu rm rh : Nat) (Th : Nat → Bool) (Ln Sz : Nat → Nat) (It Hl : Nat → Int64) (sh g : Nat) (i j z : Int32) (hz : ∀ j, j < 4 → Sz j ≤ 24) (hl3 : ∀ j, j < 4 → Ln j ≤ 3) (hs4 : sh < 4) (hg4 : g < 4) (hth : Th sh = true) (htg : Th g = true) (hln : Ln sh = Ln g) (hbad : (hasS (Sz sh) i z && hasS (Sz g) j z) = false) : Met l yX5_copy wsX5_copy ({ frames := 2, cells := 0, slots := 0, locals := 45 }) (va_Pc [.ref m0, .int (nI sh), .int i, .int (nI g), .int j, .int z] (rB (dC, dI) vwCl [(m0, .inr (5, [.ref mw, .int (bi im), .ref mt, .int (nI tl), .ref ml, .ref mz, .ref mi, .ref mr, .int (nI at0), .int (nI st0), .int (nI nu), .int (nI rm), .int (nI rh), .ref md, .ref mh])), (ml, .inl (cI, 4, .inl (laF Th Ln))), (mz, .inl (cI, 4, .inl (nA Sz))), (mi, .inl (cJ, 96, .inr (.inl It))), (mh, .inl (cJ, 24, .inr (.inl Hl)))] (tyz cI cJ cS))) (QcRead (-13)) 0 0 (fun _ => False) := by
  refine Met.ofW (cc := cX5_copy) (maxL := 7) (ret := (some .int)) (by decide) rfl ?_
  intro p e s m args below meth c s₁ B hml hv
  obtain ⟨rfl, hP, hKK⟩ := hv
  have hK := hKK.1
  have hx := B.exec
  have hb := B.bytes
  have hr := B.returns
  have hts := atoms_spec (ws := wsX5_copy) B.pre
  have hown : s.vm.findClass RX5 = some m.cls := findClass_of_methodNamed B.named
  have hlocks := B.notSynchronized
  have hiX5 : ∀ w ∈ wsX50, w ∈ wsX5_copy := by decide +kernel
  have hl := lv_entry ([.ref m0, .int (nI sh), .int i, .int (nI g), .int j, .int z]) (n := 7) (Nat.le_of_ble_eq_true rfl)
  rw [lg_entry_eq]
  generalize (lg_sl ([.ref m0, .int (nI sh), .int i, .int (nI g), .int j, .int z]) ++ List.replicate (7 - (lg_sl ([.ref m0, .int (nI sh), .int i, .int (nI g), .int j, .int z])).length) Slot.unset).toArray = ls at hl ⊢
  have hl : lv_has ls 7 [(0, .ref m0), (1, .int (nI sh)), (2, .int i), (3, .int (nI g)), (4, .int j), (5, .int z)] := hl
  have hls := hl3 sh hs4
  have hlg := hl3 g hg4
  refine lv_iload_n hx hb dX5_copy_0 rfl (lv_at hl 1 rfl) ?_
  refine rr_callR (va_runS (As := [.int (nI sh)]) (rest := []) ⟨hx, hb, hml, hown, hts⟩ (c_X5_isRegister l (nI sh) ) (va_cwS 1 hts gX5_copy_X5_isRegister rfl rfl rfl (by decide +kernel) ⟨Nat.le_of_ble_eq_true rfl, Nat.le_of_ble_eq_true rfl⟩) rr_preT rfl rfl hl.1 rfl (lv_room (Nat.le_of_ble_eq_true rfl)) dX5_copy_1 ⟨Nat.zero_le _, Nat.zero_le _⟩) ?_
  refine rr_top (y := bi true) (congrArg bi (inb_lt (by omega) (by omega))) ?_
  refine rb_if_eq (tgt := 14) hx hb dX5_copy_4 (by decide) (fun c4 => ?_) (fun c4 => ?_)
  · exact absurd c4 (by decide)
  refine lv_iload_n hx hb dX5_copy_7 rfl (lv_at hl 3 rfl) ?_
  refine rr_callR (va_runS (As := [.int (nI g)]) (rest := []) ⟨hx, hb, hml, hown, hts⟩ (c_X5_isRegister l (nI g) ) (va_cwS 1 hts gX5_copy_X5_isRegister rfl rfl rfl (by decide +kernel) ⟨Nat.le_of_ble_eq_true rfl, Nat.le_of_ble_eq_true rfl⟩) rr_preT rfl rfl hl.1 rfl (lv_room (Nat.le_of_ble_eq_true rfl)) dX5_copy_8 ⟨Nat.zero_le _, Nat.zero_le _⟩) ?_
  refine rr_top (y := bi true) (congrArg bi (inb_lt (by omega) (by omega))) ?_
  refine rb_if_ne (tgt := 16) hx hb dX5_copy_11 (by decide) (fun c11 => ?_) (fun c11 => ?_)
  rotate_left
  · exact absurd c11 (by decide)
  refine lv_aload_n hx hb dX5_copy_16 rfl (lv_at hl 0 rfl) ?_
  refine va_get (D := (dC, dI)) (ci := 5) (v := .ref ml) (C := RX5) (T := TX5) (N := 15) hx hb hts hiX5 hown hK hP 0 rfl rfl 4 (by decide) (hts (.fieldLink RX5 16 "RestRegistersModel" "lane" "[I") (by decide +kernel)) (fun _ h9 => h9) rfl dX5_copy_17 ?_
  refine lv_iload_n hx hb dX5_copy_20 rfl (lv_at hl 1 rfl) ?_
  refine rn_iald hx hb hK hP 1 0 rfl rfl (i := sh) (by omega) (by decide) (v := ((laF Th Ln) sh)) rfl dX5_copy_21 ?_
  refine lv_if_lt (tgt := 34) hx hb dX5_copy_22 (by decide) (fun c22 => ?_) (fun c22 => ?_)
  · skip
    first | exact absurd c22 (by rw [laF_e hth]; exact nI_pos (by omega)) | exact absurd (by rw [laF_e htg]; exact nI_pos' (by omega)) c31
  refine lv_aload_n hx hb dX5_copy_25 rfl (lv_at hl 0 rfl) ?_
  refine va_get (D := (dC, dI)) (ci := 5) (v := .ref ml) (C := RX5) (T := TX5) (N := 15) hx hb hts hiX5 hown hK hP 0 rfl rfl 4 (by decide) (hts (.fieldLink RX5 16 "RestRegistersModel" "lane" "[I") (by decide +kernel)) (fun _ h9 => h9) rfl dX5_copy_26 ?_
  refine lv_iload_n hx hb dX5_copy_29 rfl (lv_at hl 3 rfl) ?_
  refine rn_iald hx hb hK hP 1 0 rfl rfl (i := g) (by omega) (by decide) (v := ((laF Th Ln) g)) rfl dX5_copy_30 ?_
  refine lv_if_ge (tgt := 37) hx hb dX5_copy_31 (by decide) (fun c31 => ?_) (fun c31 => ?_)
  · skip
    refine lv_aload_n hx hb dX5_copy_37 rfl (lv_at hl 0 rfl) ?_
    refine va_get (D := (dC, dI)) (ci := 5) (v := .ref ml) (C := RX5) (T := TX5) (N := 15) hx hb hts hiX5 hown hK hP 0 rfl rfl 4 (by decide) (hts (.fieldLink RX5 16 "RestRegistersModel" "lane" "[I") (by decide +kernel)) (fun _ h9 => h9) rfl dX5_copy_38 ?_
    refine lv_iload_n hx hb dX5_copy_41 rfl (lv_at hl 1 rfl) ?_
    refine rn_iald hx hb hK hP 1 0 rfl rfl (i := sh) (by omega) (by decide) (v := ((laF Th Ln) sh)) rfl dX5_copy_42 ?_
    refine lv_aload_n hx hb dX5_copy_43 rfl (lv_at hl 0 rfl) ?_
    refine va_get (D := (dC, dI)) (ci := 5) (v := .ref ml) (C := RX5) (T := TX5) (N := 15) hx hb hts hiX5 hown hK hP 0 rfl rfl 4 (by decide) (hts (.fieldLink RX5 16 "RestRegistersModel" "lane" "[I") (by decide +kernel)) (fun _ h9 => h9) rfl dX5_copy_44 ?_
    refine lv_iload_n hx hb dX5_copy_47 rfl (lv_at hl 3 rfl) ?_
    refine rn_iald hx hb hK hP 1 0 rfl rfl (i := g) (by omega) (by decide) (v := ((laF Th Ln) g)) rfl dX5_copy_48 ?_
    refine lv_icmp_eq (tgt := 55) hx hb dX5_copy_49 (by decide) (fun c49 => ?_) (fun c49 => ?_)
    · skip
      refine lv_aload_n hx hb dX5_copy_55 rfl (lv_at hl 0 rfl) ?_
      refine lv_iload_n hx hb dX5_copy_56 rfl (lv_at hl 1 rfl) ?_
      refine lv_aload_n hx hb dX5_copy_57 rfl (lv_at hl 0 rfl) ?_
      refine va_get (D := (dC, dI)) (ci := 5) (v := .ref ml) (C := RX5) (T := TX5) (N := 15) hx hb hts hiX5 hown hK hP 0 rfl rfl 4 (by decide) (hts (.fieldLink RX5 16 "RestRegistersModel" "lane" "[I") (by decide +kernel)) (fun _ h9 => h9) rfl dX5_copy_58 ?_
      refine lv_iload_n hx hb dX5_copy_61 rfl (lv_at hl 1 rfl) ?_
      refine rn_iald hx hb hK hP 1 0 rfl rfl (i := sh) (by omega) (by decide) (v := ((laF Th Ln) sh)) rfl dX5_copy_62 ?_
      refine lv_iload_n hx hb dX5_copy_63 rfl (lv_at hl 2 rfl) ?_
      refine lv_iload hx hb dX5_copy_64 (lv_at hl 5 rfl) ?_
      refine rr_callR (va_runV (As := [.int (nI sh), .int ((laF Th Ln) sh), .int i, .int z]) (rest := []) ⟨hx, hb, hml, hown, hts⟩ (c_X5_against l dC dI cI cJ cS m0 mw mt ml mz mi mr md mh im tl at0 st0 nu rm rh Th Ln Sz sh ((laF Th Ln) sh) i z (by first | assumption | omega) (by first | assumption | omega) (by first | assumption | omega)) (cwV 4 hts gX5_copy_X5_against rfl rfl rfl (by decide +kernel) ⟨Nat.le_of_ble_eq_true rfl, Nat.le_of_ble_eq_true rfl⟩) (rr_preV hKK (hP.sub [0, 1, 2] rfl) rfl rfl) rfl rfl hl.1 rfl (lv_room (Nat.le_of_ble_eq_true rfl)) dX5_copy_66 ⟨Nat.zero_le _, Nat.zero_le _⟩) ?_
      refine lv_if_lt (tgt := 90) hx hb dX5_copy_69 (by decide) (fun c69 => ?_) (fun c69 => ?_)
      · skip
        refine lv_bipush (v := (-13)) hx hb dX5_copy_90 (by decide) ?_
        exact rr_iret hx hb hr hlocks dX5_copy_92 (rfl)
      refine lv_aload_n hx hb dX5_copy_72 rfl (lv_at hl 0 rfl) ?_
      refine lv_iload_n hx hb dX5_copy_73 rfl (lv_at hl 3 rfl) ?_
      refine lv_aload_n hx hb dX5_copy_74 rfl (lv_at hl 0 rfl) ?_
      refine va_get (D := (dC, dI)) (ci := 5) (v := .ref ml) (C := RX5) (T := TX5) (N := 15) hx hb hts hiX5 hown hK hP 0 rfl rfl 4 (by decide) (hts (.fieldLink RX5 16 "RestRegistersModel" "lane" "[I") (by decide +kernel)) (fun _ h9 => h9) rfl dX5_copy_75 ?_
      refine lv_iload_n hx hb dX5_copy_78 rfl (lv_at hl 3 rfl) ?_
      refine rn_iald hx hb hK hP 1 0 rfl rfl (i := g) (by omega) (by decide) (v := ((laF Th Ln) g)) rfl dX5_copy_79 ?_
      refine lv_iload hx hb dX5_copy_80 (lv_at hl 4 rfl) ?_
      refine lv_iload hx hb dX5_copy_82 (lv_at hl 5 rfl) ?_
      refine rr_callR (va_runV (As := [.int (nI g), .int ((laF Th Ln) g), .int j, .int z]) (rest := []) ⟨hx, hb, hml, hown, hts⟩ (c_X5_against l dC dI cI cJ cS m0 mw mt ml mz mi mr md mh im tl at0 st0 nu rm rh Th Ln Sz g ((laF Th Ln) g) j z (by first | assumption | omega) (by first | assumption | omega) (by first | assumption | omega)) (cwV 4 hts gX5_copy_X5_against rfl rfl rfl (by decide +kernel) ⟨Nat.le_of_ble_eq_true rfl, Nat.le_of_ble_eq_true rfl⟩) (rr_preV hKK (hP.sub [0, 1, 2] rfl) rfl rfl) rfl rfl hl.1 rfl (lv_room (Nat.le_of_ble_eq_true rfl)) dX5_copy_84 ⟨Nat.zero_le _, Nat.zero_le _⟩) ?_
      refine lv_if_ge (tgt := 93) hx hb dX5_copy_87 (by decide) (fun c87 => ?_) (fun c87 => ?_)
      · skip
        exact absurd hbad (by rw [refI_h (nlt_le c69), refI_h c87]; decide)
      refine lv_bipush (v := (-13)) hx hb dX5_copy_90 (by decide) ?_
      exact rr_iret hx hb hr hlocks dX5_copy_92 (rfl)
    exact absurd (by rw [laF_e hth, laF_e htg, hln]) c49
  first | exact absurd c22 (by rw [laF_e hth]; exact nI_pos (by omega)) | exact absurd (by rw [laF_e htg]; exact nI_pos' (by omega)) c31
set_option maxHeartbeats 4000000 in
set_option maxRecDepth 100000 in
theorem c_X5_type_g (l : Launch) (dC : Nat → ClassId) (dI : Nat → Nat → Nat) (cI cJ cS : ClassId) (sz : Nat) (m0 mw mt ml mz mi mr md mh : Nat) (im : Bool) (tl at0 st0 nu rm rh : Nat) (Tp : Nat → Nat) (x : Nat) (hx1 : 32 ≤ x) (hx2 : x ≤ 126) (htl : tl < 40) : Met l yX5_type wsX5_type ({ frames := 1, cells := 0, slots := 0, locals := 25 }) (va_Pc [.ref m0, .int (nI x)] (rW (dC, dI) vwCl [(m0, .inr (5, [.ref mw, .int (bi im), .ref mt, .int (nI tl), .ref ml, .ref mz, .ref mi, .ref mr, .int (nI at0), .int (nI st0), .int (nI nu), .int (nI rm), .int (nI rh), .ref md, .ref mh])), (mt, .inl (cI, 40, .inl (nA Tp)))] (tyz cI cJ cS) sz)) (qI (nI (tl + 1)) (dC, dI) vwCl [(m0, .inr (5, [.ref mw, .int (bi im), .ref mt, .int (nI (tl + 1)), .ref ml, .ref mz, .ref mi, .ref mr, .int (nI at0), .int (nI st0), .int (nI nu), .int (nI rm), .int (nI rh), .ref md, .ref mh])), (mt, .inl (cI, 40, .inl (nA (uN Tp tl x))))] (va_A [(m0, .inr (5, [.ref mw, .int (bi im), .ref mt, .int (nI tl), .ref ml, .ref mz, .ref mi, .ref mr, .int (nI at0), .int (nI st0), .int (nI nu), .int (nI rm), .int (nI rh), .ref md, .ref mh])), (mt, .inl (cI, 40, .inl (nA Tp)))] sz)) 0 0 (va_A [(m0, .inr (5, [.ref mw, .int (bi im), .ref mt, .int (nI tl), .ref ml, .ref mz, .ref mi, .ref mr, .int (nI at0), .int (nI st0), .int (nI nu), .int (nI rm), .int (nI rh), .ref md, .ref mh])), (mt, .inl (cI, 40, .inl (nA Tp)))] sz) := by
  refine Met.ofW (cc := cX5_type) (maxL := 2) (ret := (some .int)) (by decide) rfl ?_
  intro p e s m args below meth c s₁ B hml hv
  obtain ⟨rfl, hsz, hP, hKK, hD0⟩ := hv
  have hK := hKK.1
  have hx := B.exec
  have hb := B.bytes
  have hr := B.returns
  have hts := atoms_spec (ws := wsX5_type) B.pre
  have hown : s.vm.findClass RX5 = some m.cls := findClass_of_methodNamed B.named
  have hlocks := B.notSynchronized
  subst hsz
  have hD := hD0.self (sz := s.heap.size)
  generalize hAe : va_A [(m0, .inr (5, [.ref mw, .int (bi im), .ref mt, .int (nI tl), .ref ml, .ref mz, .ref mi, .ref mr, .int (nI at0), .int (nI st0), .int (nI nu), .int (nI rm), .int (nI rh), .ref md, .ref mh])), (mt, .inl (cI, 40, .inl (nA Tp)))] s.heap.size = A at hD ⊢
  have hA : ∀ q : Nat, s.heap.size ≤ q → A q := fun q h => by rw [← hAe]; exact Or.inr h
  have hS : va_S A s.heap s.heap [] := va_S.rf
  have hP : va_P (dC, dI) vwCl [(m0, .inr (5, [.ref mw, .int (bi im), .ref mt, .int (nI tl), .ref ml, .ref mz, .ref mi, .ref mr, .int (nI at0), .int (nI st0), .int (nI nu), .int (nI rm), .int (nI rh), .ref md, .ref mh])), (mt, .inl (cI, 40, .inl (nA Tp)))] s.heap := hP
  have hiX5 : ∀ w ∈ wsX50, w ∈ wsX5_type := by decide +kernel
  have hl := lv_entry ([.ref m0, .int (nI x)]) (n := 2) (Nat.le_of_ble_eq_true rfl)
  rw [lg_entry_eq]
  generalize (lg_sl ([.ref m0, .int (nI x)]) ++ List.replicate (2 - (lg_sl ([.ref m0, .int (nI x)])).length) Slot.unset).toArray = ls at hl ⊢
  have hl : lv_has ls 2 [(0, .ref m0), (1, .int (nI x))] := hl
  refine lv_iload_n hx hb dX5_type_0 rfl (lv_at hl 1 rfl) ?_
  refine lv_i2l hx hb dX5_type_1 rfl ?_
  refine lv_ldc2 (v := 32) hx hb hown (hts (.constantLong RX5 73 (32)) (by decide +kernel)) dX5_type_2 ?_
  refine lv_ldc2 (v := 126) hx hb hown (hts (.constantLong RX5 75 (126)) (by decide +kernel)) dX5_type_5 ?_
  refine rr_callR (va_runS (As := [.long ((nI x).toInt64), .long 32, .long 126]) (rest := []) ⟨hx, hb, hml, hown, hts⟩ (c_X5_in l ((nI x).toInt64) 32 126 ) (va_cwS 3 hts gX5_type_X5_in rfl rfl rfl (by decide +kernel) ⟨Nat.le_of_ble_eq_true rfl, Nat.le_of_ble_eq_true rfl⟩) rr_preT rfl rfl hl.1 rfl (lv_room (Nat.le_of_ble_eq_true rfl)) dX5_type_8 ⟨Nat.zero_le _, Nat.zero_le _⟩) ?_
  refine rr_top (y := (bi true)) (congrArg bi (inL_nI (by omega) (by have z1 : (32 : Int64).toInt = 32 := rfl; have z2 : (126 : Int64).toInt = 126 := rfl; omega))) ?_
  refine rb_if_ne (tgt := 16) hx hb dX5_type_11 (by decide) (fun c11 => ?_) (fun c11 => ?_)
  rotate_left
  · exact absurd c11 (by decide)
  refine lv_aload_n hx hb dX5_type_16 rfl (lv_at hl 0 rfl) ?_
  refine va_get (D := (dC, dI)) (ci := 5) (v := .int (nI tl)) (C := RX5) (T := TX5) (N := 15) hx hb hts hiX5 hown hK hP 0 rfl rfl 3 (by decide) (hts (.fieldLink RX5 77 "RestRegistersModel" "taped" "I") (by decide +kernel)) (fun _ h9 => h9) rfl dX5_type_17 ?_
  refine lv_bipush (v := (nI 40)) hx hb dX5_type_20 (by decide) ?_
  refine rn_icmp_ne (tgt := 28) hx hb dX5_type_22 (by decide) (by omega) (by omega) (fun c22 => ?_) (fun c22 => ?_)
  · skip
    refine lv_aload_n hx hb dX5_type_28 rfl (lv_at hl 0 rfl) ?_
    refine va_get (D := (dC, dI)) (ci := 5) (v := .ref mt) (C := RX5) (T := TX5) (N := 15) hx hb hts hiX5 hown hK hP 0 rfl rfl 2 (by decide) (hts (.fieldLink RX5 13 "RestRegistersModel" "tape" "[I") (by decide +kernel)) (fun _ h9 => h9) rfl dX5_type_29 ?_
    refine lv_aload_n hx hb dX5_type_32 rfl (lv_at hl 0 rfl) ?_
    refine va_get (D := (dC, dI)) (ci := 5) (v := .int (nI tl)) (C := RX5) (T := TX5) (N := 15) hx hb hts hiX5 hown hK hP 0 rfl rfl 3 (by decide) (hts (.fieldLink RX5 77 "RestRegistersModel" "taped" "I") (by decide +kernel)) (fun _ h9 => h9) rfl dX5_type_33 ?_
    refine lv_iload_n hx hb dX5_type_36 rfl (lv_at hl 1 rfl) ?_
    refine rn_iast hx hb hK hP hD hS 1 0 rfl rfl (i := tl) (by omega) (by decide) (g := nA (uN Tp tl x)) (nA_upd _ _ _) dX5_type_37 (fun H locs hP hD hS => ?_)
    have hP : va_P (dC, dI) vwCl [(m0, .inr (5, [.ref mw, .int (bi im), .ref mt, .int (nI tl), .ref ml, .ref mz, .ref mi, .ref mr, .int (nI at0), .int (nI st0), .int (nI nu), .int (nI rm), .int (nI rh), .ref md, .ref mh])), (mt, .inl (cI, 40, .inl (nA (uN Tp tl x))))] H := hP
    have hD : va_D A [(m0, .inr (5, [.ref mw, .int (bi im), .ref mt, .int (nI tl), .ref ml, .ref mz, .ref mi, .ref mr, .int (nI at0), .int (nI st0), .int (nI nu), .int (nI rm), .int (nI rh), .ref md, .ref mh])), (mt, .inl (cI, 40, .inl (nA (uN Tp tl x))))] := hD
    refine lv_aload_n hx hb dX5_type_38 rfl (lv_at hl 0 rfl) ?_
    refine lv_dup hx hb dX5_type_39 rfl ?_
    refine va_get (D := (dC, dI)) (ci := 5) (v := .int (nI tl)) (C := RX5) (T := TX5) (N := 15) hx hb hts hiX5 hown hK hP 0 rfl rfl 3 (by decide) (hts (.fieldLink RX5 77 "RestRegistersModel" "taped" "I") (by decide +kernel)) (fun _ h9 => h9) rfl dX5_type_40 ?_
    refine lv_iconst (v := (nI 1)) hx hb dX5_type_43 (by decide) ?_
    refine rn_iadd hx hb dX5_type_44 ?_
    refine va_put (D := (dC, dI)) (ci := 5) (v := .int (nI (tl + 1))) (ty := .int) (C := RX5) (T := TX5) (N := 15) hx hb hts hiX5 tyX5 tyX5_ok nmX5 hown hK hP hD hS 0 rfl rfl 3 (by decide) (hts (.fieldLink RX5 77 "RestRegistersModel" "taped" "I") (by decide +kernel)) (fun _ h9 => h9) rfl (by decide +kernel) rfl rfl (Nat.le_of_ble_eq_true rfl) dX5_type_45 (fun H locs hP hD hS => ?_)
    have hP : va_P (dC, dI) vwCl [(m0, .inr (5, [.ref mw, .int (bi im), .ref mt, .int (nI (tl + 1)), .ref ml, .ref mz, .ref mi, .ref mr, .int (nI at0), .int (nI st0), .int (nI nu), .int (nI rm), .int (nI rh), .ref md, .ref mh])), (mt, .inl (cI, 40, .inl (nA (uN Tp tl x))))] H := hP
    have hD : va_D A [(m0, .inr (5, [.ref mw, .int (bi im), .ref mt, .int (nI (tl + 1)), .ref ml, .ref mz, .ref mi, .ref mr, .int (nI at0), .int (nI st0), .int (nI nu), .int (nI rm), .int (nI rh), .ref md, .ref mh])), (mt, .inl (cI, 40, .inl (nA (uN Tp tl x))))] := hD
    refine lv_aload_n hx hb dX5_type_48 rfl (lv_at hl 0 rfl) ?_
    refine va_get (D := (dC, dI)) (ci := 5) (v := .int (nI (tl + 1))) (C := RX5) (T := TX5) (N := 15) hx hb hts hiX5 hown hK hP 0 rfl rfl 3 (by decide) (hts (.fieldLink RX5 77 "RestRegistersModel" "taped" "I") (by decide +kernel)) (fun _ h9 => h9) rfl dX5_type_49 ?_
    exact rr_iretW hx hb hr hlocks dX5_type_52 hP hD hS (rfl)
  exact absurd c22 (by omega)
set_option maxHeartbeats 4000000 in
set_option maxRecDepth 100000 in
theorem c_X5_type_f (l : Launch) (dC : Nat → ClassId) (dI : Nat → Nat → Nat) (cI cJ cS : ClassId) (m0 mw mt ml mz mi mr md mh : Nat) (im : Bool) (tl at0 st0 nu rm rh : Nat) (Tp : Nat → Nat) (x : Nat) (hx1 : 32 ≤ x) (hx2 : x ≤ 126) (htl : tl = 40) : Met l yX5_type wsX5_type ({ frames := 1, cells := 0, slots := 0, locals := 25 }) (va_Pc [.ref m0, .int (nI x)] (rB (dC, dI) vwCl [(m0, .inr (5, [.ref mw, .int (bi im), .ref mt, .int (nI tl), .ref ml, .ref mz, .ref mi, .ref mr, .int (nI at0), .int (nI st0), .int (nI nu), .int (nI rm), .int (nI rh), .ref md, .ref mh])), (mt, .inl (cI, 40, .inl (nA Tp)))] (tyz cI cJ cS))) (QcRead (-3)) 0 0 (fun _ => False) := by
  refine Met.ofW (cc := cX5_type) (maxL := 2) (ret := (some .int)) (by decide) rfl ?_
  intro p e s m args below meth c s₁ B hml hv
  obtain ⟨rfl, hP, hKK⟩ := hv
  have hK := hKK.1
  have hx := B.exec
  have hb := B.bytes
  have hr := B.returns
  have hts := atoms_spec (ws := wsX5_type) B.pre
  have hown : s.vm.findClass RX5 = some m.cls := findClass_of_methodNamed B.named
  have hlocks := B.notSynchronized
  have hiX5 : ∀ w ∈ wsX50, w ∈ wsX5_type := by decide +kernel
  have hl := lv_entry ([.ref m0, .int (nI x)]) (n := 2) (Nat.le_of_ble_eq_true rfl)
  rw [lg_entry_eq]
  generalize (lg_sl ([.ref m0, .int (nI x)]) ++ List.replicate (2 - (lg_sl ([.ref m0, .int (nI x)])).length) Slot.unset).toArray = ls at hl ⊢
  have hl : lv_has ls 2 [(0, .ref m0), (1, .int (nI x))] := hl
  refine lv_iload_n hx hb dX5_type_0 rfl (lv_at hl 1 rfl) ?_
  refine lv_i2l hx hb dX5_type_1 rfl ?_
  refine lv_ldc2 (v := 32) hx hb hown (hts (.constantLong RX5 73 (32)) (by decide +kernel)) dX5_type_2 ?_
  refine lv_ldc2 (v := 126) hx hb hown (hts (.constantLong RX5 75 (126)) (by decide +kernel)) dX5_type_5 ?_
  refine rr_callR (va_runS (As := [.long ((nI x).toInt64), .long 32, .long 126]) (rest := []) ⟨hx, hb, hml, hown, hts⟩ (c_X5_in l ((nI x).toInt64) 32 126 ) (va_cwS 3 hts gX5_type_X5_in rfl rfl rfl (by decide +kernel) ⟨Nat.le_of_ble_eq_true rfl, Nat.le_of_ble_eq_true rfl⟩) rr_preT rfl rfl hl.1 rfl (lv_room (Nat.le_of_ble_eq_true rfl)) dX5_type_8 ⟨Nat.zero_le _, Nat.zero_le _⟩) ?_
  refine rr_top (y := (bi true)) (congrArg bi (inL_nI (by omega) (by have z1 : (32 : Int64).toInt = 32 := rfl; have z2 : (126 : Int64).toInt = 126 := rfl; omega))) ?_
  refine rb_if_ne (tgt := 16) hx hb dX5_type_11 (by decide) (fun c11 => ?_) (fun c11 => ?_)
  rotate_left
  · exact absurd c11 (by decide)
  refine lv_aload_n hx hb dX5_type_16 rfl (lv_at hl 0 rfl) ?_
  refine va_get (D := (dC, dI)) (ci := 5) (v := .int (nI tl)) (C := RX5) (T := TX5) (N := 15) hx hb hts hiX5 hown hK hP 0 rfl rfl 3 (by decide) (hts (.fieldLink RX5 77 "RestRegistersModel" "taped" "I") (by decide +kernel)) (fun _ h9 => h9) rfl dX5_type_17 ?_
  refine lv_bipush (v := (nI 40)) hx hb dX5_type_20 (by decide) ?_
  refine rn_icmp_ne (tgt := 28) hx hb dX5_type_22 (by decide) (by omega) (by omega) (fun c22 => ?_) (fun c22 => ?_)
  · skip
    exact absurd htl c22
  refine lv_bipush (v := (-3)) hx hb dX5_type_25 (by decide) ?_
  exact rr_iret hx hb hr hlocks dX5_type_27 (rfl)
set_option maxHeartbeats 4000000 in
set_option maxRecDepth 100000 in
theorem c_X5_type_b (l : Launch) (dC : Nat → ClassId) (dI : Nat → Nat → Nat) (cI cJ cS : ClassId) (m0 mw mt ml mz mi mr md mh : Nat) (im : Bool) (tl at0 st0 nu rm rh : Nat) (Bw : Nat → Nat) (x : Int32) (hbad : ltrB x = false) : Met l yX5_type wsX5_type ({ frames := 1, cells := 0, slots := 0, locals := 25 }) (va_Pc [.ref m0, .int x] (rB (dC, dI) vwCl [(m0, .inr (5, [.ref mw, .int (bi im), .ref mt, .int (nI tl), .ref ml, .ref mz, .ref mi, .ref mr, .int (nI at0), .int (nI st0), .int (nI nu), .int (nI rm), .int (nI rh), .ref md, .ref mh])), (mw, .inl (cI, 480, .inl (nA Bw)))] (tyz cI cJ cS))) (QcRead (-1)) 0 0 (fun _ => False) := by
  refine Met.ofW (cc := cX5_type) (maxL := 2) (ret := (some .int)) (by decide) rfl ?_
  intro p e s m args below meth c s₁ B hml hv
  obtain ⟨rfl, hP, hKK⟩ := hv
  have hK := hKK.1
  have hx := B.exec
  have hb := B.bytes
  have hr := B.returns
  have hts := atoms_spec (ws := wsX5_type) B.pre
  have hown : s.vm.findClass RX5 = some m.cls := findClass_of_methodNamed B.named
  have hlocks := B.notSynchronized
  have hiX5 : ∀ w ∈ wsX50, w ∈ wsX5_type := by decide +kernel
  have hl := lv_entry ([.ref m0, .int x]) (n := 2) (Nat.le_of_ble_eq_true rfl)
  rw [lg_entry_eq]
  generalize (lg_sl ([.ref m0, .int x]) ++ List.replicate (2 - (lg_sl ([.ref m0, .int x])).length) Slot.unset).toArray = ls at hl ⊢
  have hl : lv_has ls 2 [(0, .ref m0), (1, .int x)] := hl
  refine lv_iload_n hx hb dX5_type_0 rfl (lv_at hl 1 rfl) ?_
  refine lv_i2l hx hb dX5_type_1 rfl ?_
  refine lv_ldc2 (v := 32) hx hb hown (hts (.constantLong RX5 73 (32)) (by decide +kernel)) dX5_type_2 ?_
  refine lv_ldc2 (v := 126) hx hb hown (hts (.constantLong RX5 75 (126)) (by decide +kernel)) dX5_type_5 ?_
  refine rr_callR (va_runS (As := [.long x.toInt64, .long 32, .long 126]) (rest := []) ⟨hx, hb, hml, hown, hts⟩ (c_X5_in l x.toInt64 32 126 ) (va_cwS 3 hts gX5_type_X5_in rfl rfl rfl (by decide +kernel) ⟨Nat.le_of_ble_eq_true rfl, Nat.le_of_ble_eq_true rfl⟩) rr_preT rfl rfl hl.1 rfl (lv_room (Nat.le_of_ble_eq_true rfl)) dX5_type_8 ⟨Nat.zero_le _, Nat.zero_le _⟩) ?_
  refine rb_if_ne (tgt := 16) hx hb dX5_type_11 (by decide) (fun c11 => ?_) (fun c11 => ?_)
  · skip
    exact absurd hbad (show ¬ inL x.toInt64 32 126 = false by rw [c11]; decide)
  refine lv_iconst (v := (-1)) hx hb dX5_type_14 (by decide) ?_
  exact rr_iret hx hb hr hlocks dX5_type_15 (rfl)
