set_option maxHeartbeats 4000000 in
set_option maxRecDepth 100000 in
theorem c_X3_told (l : Launch) (dC : Nat → ClassId) (dI : Nat → Nat → Nat) (cI cJ cS : ClassId) (h3 hk hw hs : Nat) (n h rg sp : Nat) (kf wf sf : Nat → Int32) (Kd Wd Sh : Nat → Nat) (hq : Nat) (row : Nat → Int64) (i : Nat) (ok : wOk n Kd Wd) (hi2 : i + n ≤ 24) : Met l yX3_told wsX3_told ({ frames := 0, cells := 0, slots := 0, locals := 0 }) (va_Pc [.ref h3, .ref hq, .int (nI i)] (rB (dC, dI) vwCl [(h3, .inr (3, [.int (nI n), .int (nI h), .int (nI rg), .int (nI sp), .ref hk, .ref hw, .ref hs])), (hk, .inl (cI, 6, .inl kf)), (hw, .inl (cI, 6, .inl wf)), (hs, .inl (cI, 6, .inl sf)), (hq, .inl (cJ, 24, .inr (.inl row)))] (tyz cI cJ cS))) (QcRead (nI (orS (tldB row i) n))) 0 0 (fun _ => False) := by
  refine Met.ofW (cc := cX3_told) (maxL := 5) (ret := (some .int)) (by decide) rfl ?_
  intro p e s m args below meth c s₁ B hml hv
  obtain ⟨rfl, hP, hKK⟩ := hv
  have hK := hKK.1
  have hx := B.exec
  have hb := B.bytes
  have hr := B.returns
  have hts := atoms_spec (ws := wsX3_told) B.pre
  have hown : s.vm.findClass RX3 = some m.cls := findClass_of_methodNamed B.named
  have hlocks := B.notSynchronized
  have hiX3 : ∀ w ∈ wsX30, w ∈ wsX3_told := by decide +kernel
  have hl := lv_entry ([.ref h3, .ref hq, .int (nI i)]) (n := 5) (Nat.le_of_ble_eq_true rfl)
  rw [lg_entry_eq]
  generalize (lg_sl ([.ref h3, .ref hq, .int (nI i)]) ++ List.replicate (5 - (lg_sl ([.ref h3, .ref hq, .int (nI i)])).length) Slot.unset).toArray = ls at hl ⊢
  have hl : lv_has ls 5 [(0, .ref h3), (1, .ref hq), (2, .int (nI i))] := hl
  have hn6 := ok.1
  refine lv_iconst (v := (nI 0)) hx hb dX3_told_0 (by decide) ?_
  refine lv_istore_n (lv' := [(3, .int (nI 0)), (0, .ref h3), (1, .ref hq), (2, .int (nI i))]) hx hb dX3_told_1 rfl hl (by decide) rfl (fun ls hl => ?_)
  refine lv_iconst (v := (nI 0)) hx hb dX3_told_2 (by decide) ?_
  refine lv_istore (lv' := [(4, .int (nI 0)), (3, .int (nI 0)), (0, .ref h3), (1, .ref hq), (2, .int (nI i))]) hx hb dX3_told_3 hl (by decide) rfl (fun ls hl => ?_)
  refine rl1 (A1 := Nat) (fun ls => W p l e _ s m _ below meth c s.heap [] 0 0 _ (F0 m 5 ls [])) (fun k ls => k ≤ n ∧ lv_has ls 5 [(4, .int (nI k)), (3, .int (nI (orS (tldB row i) k))), (0, .ref h3), (1, .ref hq), (2, .int (nI i))]) (fun k => n - k) ?_ 0 ls ⟨by omega, lv_sub hl [0, 1, 2, 3, 4] rfl⟩
  rintro k ls ⟨hi, hl⟩ ih5
  refine lv_iload hx hb dX3_told_5 (lv_at hl 0 rfl) ?_
  refine lv_aload_n hx hb dX3_told_7 rfl (lv_at hl 2 rfl) ?_
  refine va_get (D := (dC, dI)) (ci := 3) (v := .int (nI n)) (C := RX3) (T := TX3) (N := 7) hx hb hts hiX3 hown hK hP 0 rfl rfl 0 (by decide) (hts (.fieldLink RX3 28 "RestRegisters$Wheels" "size" "I") (by decide +kernel)) (fun _ h9 => h9) rfl dX3_told_8 ?_
  refine rn_icmp_ge (tgt := 44) hx hb dX3_told_11 (by decide) (by omega) (by omega) (fun c11 => ?_) (fun c11 => ?_)
  · skip
    refine lv_iload_n hx hb dX3_told_44 rfl (lv_at hl 1 rfl) ?_
    exact rr_iret hx hb hr hlocks dX3_told_45 (by rw [Nat.le_antisymm hi c11])
  refine lv_iload_n hx hb dX3_told_14 rfl (lv_at hl 1 rfl) ?_
  refine lv_aload_n hx hb dX3_told_15 rfl (lv_at hl 3 rfl) ?_
  refine lv_iload_n hx hb dX3_told_16 rfl (lv_at hl 4 rfl) ?_
  refine lv_iload hx hb dX3_told_17 (lv_at hl 0 rfl) ?_
  refine rn_iadd hx hb dX3_told_19 ?_
  refine rn_lald hx hb hK hP 4 1 rfl rfl (i := i + k) (by omega) (by decide) (v := (row (i + k))) rfl dX3_told_20 ?_
  refine lv_ldc2 (v := (-1)) hx hb hown (hts (.constantLong RX3 92 (-1)) (by decide +kernel)) dX3_told_21 ?_
  refine W.lcmp hx hb dX3_told_24 ?_
  refine lv_if_ne (tgt := 32) hx hb dX3_told_25 (by decide) (fun c25 => ?_) (fun c25 => ?_)
  · skip
    refine lv_iconst (v := (nI 1)) hx hb dX3_told_32 (by decide) ?_
    refine lv_iload hx hb dX3_told_33 (lv_at hl 0 rfl) ?_
    refine lv_ishl hx hb dX3_told_35 ?_
    refine rr_top (y := nI (2 ^ k)) (shl_eq (by omega)) ?_
    refine lv_ior hx hb dX3_told_36 ?_
    refine rr_top (y := (nI (orS (tldB row i) (k + 1)))) (by rw [or_eq, orS]; first | (rw [if_pos (show tldB row i k = true by unfold tldB; rw [decide_eq_false (fun q => c25 (cmp_eq.mpr q))]; rfl)]; done) | (rw [if_neg (show ¬ tldB row i k = true by unfold tldB; rw [decide_eq_true (cmp_eq.mp c25)]; decide)])) ?_
    refine lv_istore_n (lv' := [(3, .int (nI (orS (tldB row i) (k + 1)))), (4, .int (nI k)), (0, .ref h3), (1, .ref hq), (2, .int (nI i))]) hx hb dX3_told_37 rfl hl (by decide) rfl (fun ls hl => ?_)
    refine lv_iinc (v := (nI (k + 1))) (lv' := [(4, .int (nI (k + 1))), (3, .int (nI (orS (tldB row i) (k + 1)))), (0, .ref h3), (1, .ref hq), (2, .int (nI i))]) hx hb dX3_told_38 hl (k := 1) rfl (rn_inc k 1) (by decide) rfl (fun ls hl => ?_)
    refine lv_goto (tgt := 5) hx hb dX3_told_41 (by decide) ?_
    exact ih5 (k + 1) ls ⟨by omega, lv_sub hl [0, 1, 2, 3, 4] rfl⟩ (by omega)
  refine lv_iconst (v := (nI 0)) hx hb dX3_told_28 (by decide) ?_
  refine lv_goto (tgt := 36) hx hb dX3_told_29 (by decide) ?_
  refine lv_ior hx hb dX3_told_36 ?_
  refine rr_top (y := (nI (orS (tldB row i) (k + 1)))) (by rw [or_eq, orS]; first | (rw [if_pos (show tldB row i k = true by unfold tldB; rw [decide_eq_false (fun q => c25 (cmp_eq.mpr q))]; rfl)]; done) | (rw [if_neg (show ¬ tldB row i k = true by unfold tldB; rw [decide_eq_true (cmp_eq.mp c25)]; decide)])) ?_
  refine lv_istore_n (lv' := [(3, .int (nI (orS (tldB row i) (k + 1)))), (4, .int (nI k)), (0, .ref h3), (1, .ref hq), (2, .int (nI i))]) hx hb dX3_told_37 rfl hl (by decide) rfl (fun ls hl => ?_)
  refine lv_iinc (v := (nI (k + 1))) (lv' := [(4, .int (nI (k + 1))), (3, .int (nI (orS (tldB row i) (k + 1)))), (0, .ref h3), (1, .ref hq), (2, .int (nI i))]) hx hb dX3_told_38 hl (k := 1) rfl (rn_inc k 1) (by decide) rfl (fun ls hl => ?_)
  refine lv_goto (tgt := 5) hx hb dX3_told_41 (by decide) ?_
  exact ih5 (k + 1) ls ⟨by omega, lv_sub hl [0, 1, 2, 3, 4] rfl⟩ (by omega)
set_option maxHeartbeats 4000000 in
set_option maxRecDepth 100000 in
theorem c_X3_leastFitting (l : Launch) (dC : Nat → ClassId) (dI : Nat → Nat → Nat) (cI cJ cS : ClassId) (h3 hk hw hs : Nat) (n h rg sp : Nat) (kf wf sf : Nat → Int32) (Kd Wd Sh : Nat → Nat) (hq : Nat) (row : Nat → Int64) (i : Nat) (ok : wOk n Kd Wd) (fw : isA n wf Wd) (fs : isA n sf Sh) (hS : ∀ j, j < n → Sh j < sp) (hsp : sp ≤ 47045881) (hi2 : i + n ≤ 24) (hsp0 : 0 < sp) (hrg : rg < 2 ^ 31) : Met l yX3_leastFitting wsX3_leastFitting ({ frames := 2, cells := 0, slots := 0, locals := 44 }) (va_Pc [.ref h3, .ref hq, .int (nI i)] (rB (dC, dI) vwCl [(h3, .inr (3, [.int (nI n), .int (nI h), .int (nI rg), .int (nI sp), .ref hk, .ref hw, .ref hs])), (hk, .inl (cI, 6, .inl kf)), (hw, .inl (cI, 6, .inl wf)), (hs, .inl (cI, 6, .inl sf)), (hq, .inl (cJ, 24, .inr (.inl row)))] (tyz cI cJ cS))) (QcRead (lfI n Wd Sh sp rg row i)) 0 0 (fun _ => False) := by
  refine Met.ofW (cc := cX3_leastFitting) (maxL := 7) (ret := (some .int)) (by decide) rfl ?_
  intro p e s m args below meth c s₁ B hml hv
  obtain ⟨rfl, hP, hKK⟩ := hv
  have hK := hKK.1
  have hx := B.exec
  have hb := B.bytes
  have hr := B.returns
  have hts := atoms_spec (ws := wsX3_leastFitting) B.pre
  have hown : s.vm.findClass RX3 = some m.cls := findClass_of_methodNamed B.named
  have hlocks := B.notSynchronized
  have hiX3 : ∀ w ∈ wsX30, w ∈ wsX3_leastFitting := by decide +kernel
  have hl := lv_entry ([.ref h3, .ref hq, .int (nI i)]) (n := 7) (Nat.le_of_ble_eq_true rfl)
  rw [lg_entry_eq]
  generalize (lg_sl ([.ref h3, .ref hq, .int (nI i)]) ++ List.replicate (7 - (lg_sl ([.ref h3, .ref hq, .int (nI i)])).length) Slot.unset).toArray = ls at hl ⊢
  have hl : lv_has ls 7 [(0, .ref h3), (1, .ref hq), (2, .int (nI i))] := hl
  have hn6 := ok.1
  refine lv_iconst (v := (nI 0)) hx hb dX3_leastFitting_0 (by decide) ?_
  refine lv_istore_n (lv' := [(3, .int (nI 0)), (0, .ref h3), (1, .ref hq), (2, .int (nI i))]) hx hb dX3_leastFitting_1 rfl hl (by decide) rfl (fun ls hl => ?_)
  refine lv_iconst (v := (nI 0)) hx hb dX3_leastFitting_2 (by decide) ?_
  refine lv_istore (lv' := [(4, .int (nI 0)), (3, .int (nI 0)), (0, .ref h3), (1, .ref hq), (2, .int (nI i))]) hx hb dX3_leastFitting_3 hl (by decide) rfl (fun ls hl => ?_)
  refine rl1 (A1 := Nat) (fun ls => W p l e _ s m _ below meth c s.heap [] 0 0 _ (F0 m 5 ls [])) (fun k ls => k ≤ n ∧ okR Wd row i k = true ∧ lv_has ls 7 [(4, .int (nI k)), (3, .int (nI (vF Sh sp row i k))), (0, .ref h3), (1, .ref hq), (2, .int (nI i))]) (fun k => n - k) ?_ 0 ls ⟨by omega, rfl, lv_sub hl [0, 1, 2, 3, 4] rfl⟩
  rintro k ls ⟨hi, hok, hl⟩ ih5
  refine lv_iload hx hb dX3_leastFitting_5 (lv_at hl 0 rfl) ?_
  refine lv_aload_n hx hb dX3_leastFitting_7 rfl (lv_at hl 2 rfl) ?_
  refine va_get (D := (dC, dI)) (ci := 3) (v := .int (nI n)) (C := RX3) (T := TX3) (N := 7) hx hb hts hiX3 hown hK hP 0 rfl rfl 0 (by decide) (hts (.fieldLink RX3 28 "RestRegisters$Wheels" "size" "I") (by decide +kernel)) (fun _ h9 => h9) rfl dX3_leastFitting_8 ?_
  refine rn_icmp_ge (tgt := 82) hx hb dX3_leastFitting_11 (by decide) (by omega) (by omega) (fun c11 => ?_) (fun c11 => ?_)
  · skip
    have ek : k = n := Nat.le_antisymm hi c11
    have ho64 := orS_64 (tldB row i) hn6
    have hpb := prO_b ok (orS (tldB row i) n) (Nat.le_refl n)
    have hvl := vF_lt (S := Sh) row i hsp0 k
    refine lv_iload_n hx hb dX3_leastFitting_82 rfl (lv_at hl 1 rfl) ?_
    refine lv_aload_n hx hb dX3_leastFitting_83 rfl (lv_at hl 2 rfl) ?_
    refine lv_aload_n hx hb dX3_leastFitting_84 rfl (lv_at hl 2 rfl) ?_
    refine lv_aload_n hx hb dX3_leastFitting_85 rfl (lv_at hl 3 rfl) ?_
    refine lv_iload_n hx hb dX3_leastFitting_86 rfl (lv_at hl 4 rfl) ?_
    refine rr_callR (va_runV (As := [.ref hq, .int (nI i)]) (rest := [.ref h3, .int (nI (vF Sh sp row i k))]) ⟨hx, hb, hml, hown, hts⟩ (c_X3_told l dC dI cI cJ cS h3 hk hw hs n h rg sp kf wf sf Kd Wd Sh hq row i (by first | assumption | omega) (by first | assumption | omega)) (cwV 2 hts gX3_leastFitting_X3_told rfl rfl rfl (by decide +kernel) ⟨Nat.le_of_ble_eq_true rfl, Nat.le_of_ble_eq_true rfl⟩) (rr_preV hKK hP rfl rfl) rfl rfl hl.1 rfl (lv_room (Nat.le_of_ble_eq_true rfl)) dX3_leastFitting_87 ⟨Nat.zero_le _, Nat.zero_le _⟩) ?_
    refine rr_callR (va_runV (As := [.int (nI (orS (tldB row i) n))]) (rest := [.int (nI (vF Sh sp row i k))]) ⟨hx, hb, hml, hown, hts⟩ (c_X3_product l dC dI cI cJ cS h3 hk hw hs n h rg sp kf wf sf Kd Wd Sh (orS (tldB row i) n) (by first | assumption | omega) (by first | assumption | omega) (by first | assumption | omega)) (cwV 1 hts gX3_leastFitting_X3_product rfl rfl rfl (by decide +kernel) ⟨Nat.le_of_ble_eq_true rfl, Nat.le_of_ble_eq_true rfl⟩) (rr_preV hKK (hP.sub [0, 1, 2, 3] rfl) rfl rfl) rfl rfl hl.1 rfl (lv_room (Nat.le_of_ble_eq_true rfl)) dX3_leastFitting_90 ⟨Nat.zero_le _, Nat.zero_le _⟩) ?_
    refine rn_irem hx hb dX3_leastFitting_93 (by omega) (by omega) (by omega) ?_
    have hml2 := Nat.mod_le (vF Sh sp row i k) (prO Wd (orS (tldB row i) n) n)
    refine lv_istore (lv' := [(4, .int (nI ((vF Sh sp row i k) % (prO Wd (orS (tldB row i) n) n)))), (3, .int (nI (vF Sh sp row i k))), (0, .ref h3), (1, .ref hq), (2, .int (nI i))]) hx hb dX3_leastFitting_94 hl (by decide) rfl (fun ls hl => ?_)
    refine lv_iload hx hb dX3_leastFitting_96 (lv_at hl 0 rfl) ?_
    refine lv_aload_n hx hb dX3_leastFitting_98 rfl (lv_at hl 2 rfl) ?_
    refine va_get (D := (dC, dI)) (ci := 3) (v := .int (nI rg)) (C := RX3) (T := TX3) (N := 7) hx hb hts hiX3 hown hK hP 0 rfl rfl 2 (by decide) (hts (.fieldLink RX3 9 "RestRegisters$Wheels" "range" "I") (by decide +kernel)) (fun _ h9 => h9) rfl dX3_leastFitting_99 ?_
    refine rn_icmp_ge (tgt := 110) hx hb dX3_leastFitting_102 (by decide) (by omega) (by omega) (fun c102 => ?_) (fun c102 => ?_)
    · skip
      refine lv_bipush (v := (-4)) hx hb dX3_leastFitting_110 (by decide) ?_
      exact rr_iret hx hb hr hlocks dX3_leastFitting_112 (by subst ek; unfold lfI; rw [hok]; first | (rw [if_pos rfl, if_pos c102]; done) | (rw [if_pos rfl, if_neg (Nat.not_lt.mpr c102)]))
    refine lv_iload hx hb dX3_leastFitting_105 (lv_at hl 0 rfl) ?_
    refine lv_goto (tgt := 112) hx hb dX3_leastFitting_107 (by decide) ?_
    exact rr_iret hx hb hr hlocks dX3_leastFitting_112 (by subst ek; unfold lfI; rw [hok]; first | (rw [if_pos rfl, if_pos c102]; done) | (rw [if_pos rfl, if_neg (Nat.not_lt.mpr c102)]))
  refine lv_aload_n hx hb dX3_leastFitting_14 rfl (lv_at hl 3 rfl) ?_
  refine lv_iload_n hx hb dX3_leastFitting_15 rfl (lv_at hl 4 rfl) ?_
  refine lv_iload hx hb dX3_leastFitting_16 (lv_at hl 0 rfl) ?_
  refine rn_iadd hx hb dX3_leastFitting_18 ?_
  refine rn_lald hx hb hK hP 4 1 rfl rfl (i := i + k) (by omega) (by decide) (v := (row (i + k))) rfl dX3_leastFitting_19 ?_
  refine lv_lstore (lv' := [(5, .long (row (i + k))), (4, .int (nI k)), (3, .int (nI (vF Sh sp row i k))), (0, .ref h3), (1, .ref hq), (2, .int (nI i))]) hx hb dX3_leastFitting_20 hl (by decide) rfl (fun ls hl => ?_)
  refine lv_lload hx hb dX3_leastFitting_22 (lv_at hl 0 rfl) ?_
  refine lv_ldc2 (v := (-1)) hx hb hown (hts (.constantLong RX3 92 (-1)) (by decide +kernel)) dX3_leastFitting_24 ?_
  refine W.lcmp hx hb dX3_leastFitting_27 ?_
  refine lv_if_lt (tgt := 45) hx hb dX3_leastFitting_28 (by decide) (fun c28 => ?_) (fun c28 => ?_)
  · skip
    have hbad : okR Wd row i (k + 1) = false := by rw [okR, decide_eq_false (fun q => by first | (have z := lt64 (cmp_lt c28); have z2 : (-1 : Int64).toInt = -1 := rfl; omega) | (have z := nlt64 (cmp_nlt c42); rw [i2l_toInt (by omega)] at z; omega)), Bool.and_false]
    refine lv_bipush (v := (-4)) hx hb dX3_leastFitting_45 (by decide) ?_
    exact rr_iret hx hb hr hlocks dX3_leastFitting_47 (by unfold lfI; rw [okR_f hbad n (by omega)]; rfl)
  refine lv_lload hx hb dX3_leastFitting_31 (lv_at hl 0 rfl) ?_
  refine lv_aload_n hx hb dX3_leastFitting_33 rfl (lv_at hl 3 rfl) ?_
  refine va_get (D := (dC, dI)) (ci := 3) (v := .ref hw) (C := RX3) (T := TX3) (N := 7) hx hb hts hiX3 hown hK hP 0 rfl rfl 5 (by decide) (hts (.fieldLink RX3 22 "RestRegisters$Wheels" "widths" "[I") (by decide +kernel)) (fun _ h9 => h9) rfl dX3_leastFitting_34 ?_
  refine lv_iload hx hb dX3_leastFitting_37 (lv_at hl 1 rfl) ?_
  refine rn_iald hx hb hK hP 2 0 rfl rfl (i := k) (by omega) (by decide) (v := (nI (Wd k))) (fw k (by omega)) dX3_leastFitting_39 ?_
  have hv39 := ok.2.2.1 k (by omega)
  refine lv_i2l hx hb dX3_leastFitting_40 rfl ?_
  refine W.lcmp hx hb dX3_leastFitting_41 ?_
  refine lv_if_lt (tgt := 48) hx hb dX3_leastFitting_42 (by decide) (fun c42 => ?_) (fun c42 => ?_)
  · skip
    have hgood : -1 ≤ (row (i + k)).toInt ∧ (row (i + k)).toInt < (Wd k : Int) := by have z := nlt64 (cmp_nlt c28); have z1 := lt64 (cmp_lt c42); rw [i2l_toInt (by omega)] at z1; have z2 : (-1 : Int64).toInt = -1 := rfl; omega
    refine lv_lload hx hb dX3_leastFitting_48 (lv_at hl 0 rfl) ?_
    refine lv_ldc2 (v := (-1)) hx hb hown (hts (.constantLong RX3 92 (-1)) (by decide +kernel)) dX3_leastFitting_50 ?_
    refine W.lcmp hx hb dX3_leastFitting_53 ?_
    refine lv_if_eq (tgt := 76) hx hb dX3_leastFitting_54 (by decide) (fun c54 => ?_) (fun c54 => ?_)
    · skip
      have hl : lv_has ls 7 [(5, .long (row (i + k))), (4, .int (nI k)), (3, .int (nI (vF Sh sp row i (k + 1)))), (0, .ref h3), (1, .ref hq), (2, .int (nI i))] := by rw [vF, if_pos (cmp_eq.mp c54)]; exact hl
      refine lv_iinc (v := (nI (k + 1))) (lv' := [(4, .int (nI (k + 1))), (5, .long (row (i + k))), (3, .int (nI (vF Sh sp row i (k + 1)))), (0, .ref h3), (1, .ref hq), (2, .int (nI i))]) hx hb dX3_leastFitting_76 hl (k := 1) rfl (rn_inc k 1) (by decide) rfl (fun ls hl => ?_)
      refine lv_goto (tgt := 5) hx hb dX3_leastFitting_79 (by decide) ?_
      exact ih5 (k + 1) ls ⟨by omega, by rw [okR, hok, decide_eq_true hgood]; rfl, lv_sub hl [0, 2, 3, 4, 5] rfl⟩ (by omega)
    have hne : ¬ row (i + k) = -1 := fun q => c54 (cmp_eq.mpr q)
    have hne2 : (row (i + k)).toInt ≠ -1 := fun q => hne (Int64.toInt_inj.mp q)
    have hvl := vF_lt (S := Sh) row i hsp0 k
    have hsk := hS k c11
    have hmul : (row (i + k)).toInt.toNat * Sh k ≤ 18 * 47045881 := Nat.mul_le_mul (by omega) (by omega)
    refine lv_iload_n hx hb dX3_leastFitting_57 rfl (lv_at hl 2 rfl) ?_
    refine lv_lload hx hb dX3_leastFitting_58 (lv_at hl 0 rfl) ?_
    refine lv_l2i hx hb dX3_leastFitting_60 rfl ?_
    refine rr_top (y := (nI ((row (i + k)).toInt.toNat))) (l2i_small (by omega) (by omega)) ?_
    refine lv_aload_n hx hb dX3_leastFitting_61 rfl (lv_at hl 3 rfl) ?_
    refine va_get (D := (dC, dI)) (ci := 3) (v := .ref hs) (C := RX3) (T := TX3) (N := 7) hx hb hts hiX3 hown hK hP 0 rfl rfl 6 (by decide) (hts (.fieldLink RX3 25 "RestRegisters$Wheels" "shares" "[I") (by decide +kernel)) (fun _ h9 => h9) rfl dX3_leastFitting_62 ?_
    refine lv_iload hx hb dX3_leastFitting_65 (lv_at hl 1 rfl) ?_
    refine rn_iald hx hb hK hP 3 0 rfl rfl (i := k) (by omega) (by decide) (v := (nI (Sh k))) (fs k (by omega)) dX3_leastFitting_67 ?_
    refine rn_imul hx hb dX3_leastFitting_68 ?_
    refine rn_iadd hx hb dX3_leastFitting_69 ?_
    refine lv_aload_n hx hb dX3_leastFitting_70 rfl (lv_at hl 3 rfl) ?_
    refine va_get (D := (dC, dI)) (ci := 3) (v := .int (nI sp)) (C := RX3) (T := TX3) (N := 7) hx hb hts hiX3 hown hK hP 0 rfl rfl 3 (by decide) (hts (.fieldLink RX3 15 "RestRegisters$Wheels" "span" "I") (by decide +kernel)) (fun _ h9 => h9) rfl dX3_leastFitting_71 ?_
    refine rn_irem hx hb dX3_leastFitting_74 (by omega) (by omega) (by omega) ?_
    refine rn_top (y := vF Sh sp row i (k + 1)) (by rw [vF, if_neg hne]) ?_
    refine lv_istore_n (lv' := [(3, .int (nI (vF Sh sp row i (k + 1)))), (5, .long (row (i + k))), (4, .int (nI k)), (0, .ref h3), (1, .ref hq), (2, .int (nI i))]) hx hb dX3_leastFitting_75 rfl hl (by decide) rfl (fun ls hl => ?_)
    refine lv_iinc (v := (nI (k + 1))) (lv' := [(4, .int (nI (k + 1))), (3, .int (nI (vF Sh sp row i (k + 1)))), (5, .long (row (i + k))), (0, .ref h3), (1, .ref hq), (2, .int (nI i))]) hx hb dX3_leastFitting_76 hl (k := 2) rfl (rn_inc k 1) (by decide) rfl (fun ls hl => ?_)
    refine lv_goto (tgt := 5) hx hb dX3_leastFitting_79 (by decide) ?_
    exact ih5 (k + 1) ls ⟨by omega, by rw [okR, hok, decide_eq_true hgood]; rfl, lv_sub hl [0, 1, 3, 4, 5] rfl⟩ (by omega)
  have hbad : okR Wd row i (k + 1) = false := by rw [okR, decide_eq_false (fun q => by first | (have z := lt64 (cmp_lt c28); have z2 : (-1 : Int64).toInt = -1 := rfl; omega) | (have z := nlt64 (cmp_nlt c42); rw [i2l_toInt (by omega)] at z; omega)), Bool.and_false]
  refine lv_bipush (v := (-4)) hx hb dX3_leastFitting_45 (by decide) ?_
  exact rr_iret hx hb hr hlocks dX3_leastFitting_47 (by unfold lfI; rw [okR_f hbad n (by omega)]; rfl)
set_option maxHeartbeats 4000000 in
set_option maxRecDepth 100000 in
theorem c_X3_isKindSeen (l : Launch) (dC : Nat → ClassId) (dI : Nat → Nat → Nat) (cI cJ cS : ClassId) (kd : Nat) (w : Nat) (hq : Nat) (row : Nat → Int64) (i t : Nat) (hkd : kd ≤ 4) (hw2 : 2 ≤ w) (hwb : w ≤ 19) (hi2 : i + 3 * t ≤ 24) : Met l yX3_isKindSeen wsX3_isKindSeen ({ frames := 3, cells := 0, slots := 0, locals := 69 }) (va_Pc [.int (nI kd), .int (nI w), .ref hq, .int (nI i), .int (nI t)] (rB (dC, dI) vwCl [(hq, .inl (cJ, 24, .inr (.inl row)))] (tyz cI cJ cS))) (QcRead (bi (skB kd w row i t))) 0 0 (fun _ => False) := by
  refine Met.ofW (cc := cX3_isKindSeen) (maxL := 10) (ret := (some .boolean)) (by decide) rfl ?_
  intro p e s m args below meth c s₁ B hml hv
  obtain ⟨rfl, hP, hKK⟩ := hv
  have hK := hKK.1
  have hx := B.exec
  have hb := B.bytes
  have hr := B.returns
  have hts := atoms_spec (ws := wsX3_isKindSeen) B.pre
  have hown : s.vm.findClass RX3 = some m.cls := findClass_of_methodNamed B.named
  have hlocks := B.notSynchronized
  have hl := lv_entry ([.int (nI kd), .int (nI w), .ref hq, .int (nI i), .int (nI t)]) (n := 10) (Nat.le_of_ble_eq_true rfl)
  rw [lg_entry_eq]
  generalize (lg_sl ([.int (nI kd), .int (nI w), .ref hq, .int (nI i), .int (nI t)]) ++ List.replicate (10 - (lg_sl ([.int (nI kd), .int (nI w), .ref hq, .int (nI i), .int (nI t)])).length) Slot.unset).toArray = ls at hl ⊢
  have hl : lv_has ls 10 [(0, .int (nI kd)), (1, .int (nI w)), (2, .ref hq), (3, .int (nI i)), (4, .int (nI t))] := hl
  refine lv_iload_n hx hb dX3_isKindSeen_0 rfl (lv_at hl 3 rfl) ?_
  refine lv_istore (lv' := [(5, .int (nI i)), (0, .int (nI kd)), (1, .int (nI w)), (2, .ref hq), (3, .int (nI i)), (4, .int (nI t))]) hx hb dX3_isKindSeen_1 hl (by decide) rfl (fun ls hl => ?_)
  refine rl1 (A1 := Nat) (fun ls => W p l e _ s m _ below meth c s.heap [] 0 0 _ (F0 m 3 ls [])) (fun u ls => u ≤ t ∧ skB kd w row i u = true ∧ lv_has ls 10 [(5, .int (nI (i + 3 * u))), (0, .int (nI kd)), (1, .int (nI w)), (2, .ref hq), (3, .int (nI i)), (4, .int (nI t))]) (fun u => t - u) ?_ 0 ls ⟨by omega, rfl, lv_sub hl [0, 1, 2, 3, 4, 5] rfl⟩
  rintro u ls ⟨hu, hok, hl⟩ ih3
  refine lv_iload hx hb dX3_isKindSeen_3 (lv_at hl 0 rfl) ?_
  refine lv_iload_n hx hb dX3_isKindSeen_5 rfl (lv_at hl 4 rfl) ?_
  refine lv_iconst (v := (nI 3)) hx hb dX3_isKindSeen_6 (by decide) ?_
  refine lv_iload hx hb dX3_isKindSeen_7 (lv_at hl 5 rfl) ?_
  refine rn_imul hx hb dX3_isKindSeen_9 ?_
  refine rn_iadd hx hb dX3_isKindSeen_10 ?_
  refine rn_icmp_ge (tgt := 90) hx hb dX3_isKindSeen_11 (by decide) (by omega) (by omega) (fun c11 => ?_) (fun c11 => ?_)
  · skip
    refine lv_iconst (v := (nI 1)) hx hb dX3_isKindSeen_90 (by decide) ?_
    refine rr_top (y := bi true) rfl ?_
    exact rr_zret hx hb hr hlocks dX3_isKindSeen_91 (by have eu : u = t := (by omega); subst eu; exact hok.symm)
  refine lv_aload_n hx hb dX3_isKindSeen_14 rfl (lv_at hl 3 rfl) ?_
  refine lv_iload hx hb dX3_isKindSeen_15 (lv_at hl 0 rfl) ?_
  refine rn_lald hx hb hK hP 0 1 rfl rfl (i := i + 3 * u) (by omega) (by decide) (v := (row (i + 3 * u))) rfl dX3_isKindSeen_17 ?_
  refine lv_lstore (lv' := [(6, .long (row (i + 3 * u))), (5, .int (nI (i + 3 * u))), (0, .int (nI kd)), (1, .int (nI w)), (2, .ref hq), (3, .int (nI i)), (4, .int (nI t))]) hx hb dX3_isKindSeen_18 hl (by decide) rfl (fun ls hl => ?_)
  refine lv_aload_n hx hb dX3_isKindSeen_20 rfl (lv_at hl 4 rfl) ?_
  refine lv_iload hx hb dX3_isKindSeen_21 (lv_at hl 1 rfl) ?_
  refine lv_iconst (v := (nI 1)) hx hb dX3_isKindSeen_23 (by decide) ?_
  refine rn_iadd hx hb dX3_isKindSeen_24 ?_
  refine rn_lald hx hb hK hP 0 1 rfl rfl (i := i + 3 * u + 1) (by omega) (by decide) (v := (row (i + 3 * u + 1))) rfl dX3_isKindSeen_25 ?_
  refine lv_lstore (lv' := [(8, .long (row (i + 3 * u + 1))), (6, .long (row (i + 3 * u))), (5, .int (nI (i + 3 * u))), (0, .int (nI kd)), (1, .int (nI w)), (2, .ref hq), (3, .int (nI i)), (4, .int (nI t))]) hx hb dX3_isKindSeen_26 hl (by decide) rfl (fun ls hl => ?_)
  refine lv_lload hx hb dX3_isKindSeen_28 (lv_at hl 1 rfl) ?_
  refine lv_lconst (v := 0) hx hb dX3_isKindSeen_30 (by decide) ?_
  refine W.lcmp hx hb dX3_isKindSeen_31 ?_
  refine lv_if_lt (tgt := 58) hx hb dX3_isKindSeen_32 (by decide) (fun c32 => ?_) (fun c32 => ?_)
  · skip
    have hbad : skB kd w row i (u + 1) = false := by rw [skB, show okT kd w row (i + 3 * u) = false from decide_eq_false (fun q => by have z0 : (0 : Int64).toInt = 0 := rfl; have zw : (nI w).toInt64.toInt = (w : Int) := i2l_toInt (by omega); first | (have z := lt64 (cmp_lt c32); omega) | (have z := nlt64 (cmp_ge c40); omega) | (have z := lt64 (cmp_lt c47); omega) | (have z := nlt64 (cmp_nlt c55); omega)), Bool.and_false]
    refine lv_iconst (v := (nI 0)) hx hb dX3_isKindSeen_58 (by decide) ?_
    refine rr_top (y := bi false) rfl ?_
    exact rr_zret hx hb hr hlocks dX3_isKindSeen_59 ((skB_f hbad t (by omega)).symm)
  refine lv_lload hx hb dX3_isKindSeen_35 (lv_at hl 1 rfl) ?_
  refine lv_iload_n hx hb dX3_isKindSeen_37 rfl (lv_at hl 4 rfl) ?_
  refine lv_i2l hx hb dX3_isKindSeen_38 rfl ?_
  refine W.lcmp hx hb dX3_isKindSeen_39 ?_
  refine lv_if_ge (tgt := 58) hx hb dX3_isKindSeen_40 (by decide) (fun c40 => ?_) (fun c40 => ?_)
  · skip
    have hbad : skB kd w row i (u + 1) = false := by rw [skB, show okT kd w row (i + 3 * u) = false from decide_eq_false (fun q => by have z0 : (0 : Int64).toInt = 0 := rfl; have zw : (nI w).toInt64.toInt = (w : Int) := i2l_toInt (by omega); first | (have z := lt64 (cmp_lt c32); omega) | (have z := nlt64 (cmp_ge c40); omega) | (have z := lt64 (cmp_lt c47); omega) | (have z := nlt64 (cmp_nlt c55); omega)), Bool.and_false]
    refine lv_iconst (v := (nI 0)) hx hb dX3_isKindSeen_58 (by decide) ?_
    refine rr_top (y := bi false) rfl ?_
    exact rr_zret hx hb hr hlocks dX3_isKindSeen_59 ((skB_f hbad t (by omega)).symm)
  refine lv_lload hx hb dX3_isKindSeen_43 (lv_at hl 0 rfl) ?_
  refine lv_lconst (v := 0) hx hb dX3_isKindSeen_45 (by decide) ?_
  refine W.lcmp hx hb dX3_isKindSeen_46 ?_
  refine lv_if_lt (tgt := 58) hx hb dX3_isKindSeen_47 (by decide) (fun c47 => ?_) (fun c47 => ?_)
  · skip
    have hbad : skB kd w row i (u + 1) = false := by rw [skB, show okT kd w row (i + 3 * u) = false from decide_eq_false (fun q => by have z0 : (0 : Int64).toInt = 0 := rfl; have zw : (nI w).toInt64.toInt = (w : Int) := i2l_toInt (by omega); first | (have z := lt64 (cmp_lt c32); omega) | (have z := nlt64 (cmp_ge c40); omega) | (have z := lt64 (cmp_lt c47); omega) | (have z := nlt64 (cmp_nlt c55); omega)), Bool.and_false]
    refine lv_iconst (v := (nI 0)) hx hb dX3_isKindSeen_58 (by decide) ?_
    refine rr_top (y := bi false) rfl ?_
    exact rr_zret hx hb hr hlocks dX3_isKindSeen_59 ((skB_f hbad t (by omega)).symm)
  refine lv_lload hx hb dX3_isKindSeen_50 (lv_at hl 0 rfl) ?_
  refine lv_iload_n hx hb dX3_isKindSeen_52 rfl (lv_at hl 4 rfl) ?_
  refine lv_i2l hx hb dX3_isKindSeen_53 rfl ?_
  refine W.lcmp hx hb dX3_isKindSeen_54 ?_
  refine lv_if_lt (tgt := 60) hx hb dX3_isKindSeen_55 (by decide) (fun c55 => ?_) (fun c55 => ?_)
  · skip
    have hra : 0 ≤ (row (i + 3 * u)).toInt ∧ (row (i + 3 * u)).toInt < (w : Int) := by have z0 : (0 : Int64).toInt = 0 := rfl; have zw : (nI w).toInt64.toInt = (w : Int) := i2l_toInt (by omega); have z := nlt64 (cmp_nlt c32); have z1 := lt64 (cmp_nge c40); omega
    have hrb : 0 ≤ (row (i + 3 * u + 1)).toInt ∧ (row (i + 3 * u + 1)).toInt < (w : Int) := by have z0 : (0 : Int64).toInt = 0 := rfl; have zw : (nI w).toInt64.toInt = (w : Int) := i2l_toInt (by omega); have z := nlt64 (cmp_nlt c47); have z1 := lt64 (cmp_lt c55); omega
    refine lv_iload_n hx hb dX3_isKindSeen_60 rfl (lv_at hl 3 rfl) ?_
    refine lv_iload_n hx hb dX3_isKindSeen_61 rfl (lv_at hl 4 rfl) ?_
    refine lv_lload hx hb dX3_isKindSeen_62 (lv_at hl 1 rfl) ?_
    refine lv_l2i hx hb dX3_isKindSeen_64 rfl ?_
    refine rr_top (y := (nI ((row (i + 3 * u)).toInt.toNat))) (l2i_small (by omega) (by omega)) ?_
    refine lv_lload hx hb dX3_isKindSeen_65 (lv_at hl 0 rfl) ?_
    refine lv_l2i hx hb dX3_isKindSeen_67 rfl ?_
    refine rr_top (y := (nI ((row (i + 3 * u + 1)).toInt.toNat))) (l2i_small (by omega) (by omega)) ?_
    refine rr_callR (va_runS (As := [.int (nI kd), .int (nI w), .int (nI ((row (i + 3 * u)).toInt.toNat)), .int (nI ((row (i + 3 * u + 1)).toInt.toNat))]) (rest := []) ⟨hx, hb, hml, hown, hts⟩ (c_X3_addedByKind l kd w ((row (i + 3 * u)).toInt.toNat) ((row (i + 3 * u + 1)).toInt.toNat) (by first | assumption | omega) (by first | assumption | omega) (by first | assumption | omega) (by first | assumption | omega) (by first | assumption | omega)) (va_cwS 4 hts gX3_isKindSeen_X3_addedByKind rfl rfl rfl (by decide +kernel) ⟨Nat.le_of_ble_eq_true rfl, Nat.le_of_ble_eq_true rfl⟩) rr_preT rfl rfl hl.1 rfl (lv_room (Nat.le_of_ble_eq_true rfl)) dX3_isKindSeen_68 ⟨Nat.zero_le _, Nat.zero_le _⟩) ?_
    refine lv_i2l hx hb dX3_isKindSeen_71 rfl ?_
    refine lv_aload_n hx hb dX3_isKindSeen_72 rfl (lv_at hl 5 rfl) ?_
    refine lv_iload hx hb dX3_isKindSeen_73 (lv_at hl 2 rfl) ?_
    refine lv_iconst (v := (nI 2)) hx hb dX3_isKindSeen_75 (by decide) ?_
    refine rn_iadd hx hb dX3_isKindSeen_76 ?_
    refine rn_lald hx hb hK hP 0 1 rfl rfl (i := i + 3 * u + 2) (by omega) (by decide) (v := (row (i + 3 * u + 2))) rfl dX3_isKindSeen_77 ?_
    refine W.lcmp hx hb dX3_isKindSeen_78 ?_
    refine lv_if_eq (tgt := 84) hx hb dX3_isKindSeen_79 (by decide) (fun c79 => ?_) (fun c79 => ?_)
    · skip
      have hgood : okT kd w row (i + 3 * u) = true := decide_eq_true ⟨hra, hrb, cmp_eq.mp c79⟩
      refine lv_iinc (v := (nI (i + 3 * u + 3))) (lv' := [(5, .int (nI (i + 3 * u + 3))), (8, .long (row (i + 3 * u + 1))), (6, .long (row (i + 3 * u))), (0, .int (nI kd)), (1, .int (nI w)), (2, .ref hq), (3, .int (nI i)), (4, .int (nI t))]) hx hb dX3_isKindSeen_84 hl (k := 2) rfl (rn_inc (i + 3 * u) 3) (by decide) rfl (fun ls hl => ?_)
      refine lv_goto (tgt := 3) hx hb dX3_isKindSeen_87 (by decide) ?_
      exact ih3 (u + 1) ls ⟨by omega, by rw [skB, hok, hgood]; rfl, lv_sub hl [0, 3, 4, 5, 6, 7] rfl⟩ (by omega)
    have hbad : skB kd w row i (u + 1) = false := by rw [skB, show okT kd w row (i + 3 * u) = false from decide_eq_false (fun q => c79 (cmp_eq.mpr q.2.2)), Bool.and_false]
    refine lv_iconst (v := (nI 0)) hx hb dX3_isKindSeen_82 (by decide) ?_
    refine rr_top (y := bi false) rfl ?_
    exact rr_zret hx hb hr hlocks dX3_isKindSeen_83 ((skB_f hbad t (by omega)).symm)
  have hbad : skB kd w row i (u + 1) = false := by rw [skB, show okT kd w row (i + 3 * u) = false from decide_eq_false (fun q => by have z0 : (0 : Int64).toInt = 0 := rfl; have zw : (nI w).toInt64.toInt = (w : Int) := i2l_toInt (by omega); first | (have z := lt64 (cmp_lt c32); omega) | (have z := nlt64 (cmp_ge c40); omega) | (have z := lt64 (cmp_lt c47); omega) | (have z := nlt64 (cmp_nlt c55); omega)), Bool.and_false]
  refine lv_iconst (v := (nI 0)) hx hb dX3_isKindSeen_58 (by decide) ?_
  refine rr_top (y := bi false) rfl ?_
  exact rr_zret hx hb hr hlocks dX3_isKindSeen_59 ((skB_f hbad t (by omega)).symm)
set_option maxHeartbeats 4000000 in
set_option maxRecDepth 100000 in
theorem c_X3_kindsSeen (l : Launch) (dC : Nat → ClassId) (dI : Nat → Nat → Nat) (cI cJ cS : ClassId) (w : Nat) (hq : Nat) (row : Nat → Int64) (i t : Nat) (hw2 : 2 ≤ w) (hwb : w ≤ 19) (hi2 : i + 3 * t ≤ 24) : Met l yX3_kindsSeen wsX3_kindsSeen ({ frames := 4, cells := 0, slots := 0, locals := 98 }) (va_Pc [.int (nI w), .ref hq, .int (nI i), .int (nI t)] (rB (dC, dI) vwCl [(hq, .inl (cJ, 24, .inr (.inl row)))] (tyz cI cJ cS))) (QcRead (nI (orS (fun kd => skB kd w row i t) 5))) 0 0 (fun _ => False) := by
  refine Met.ofW (cc := cX3_kindsSeen) (maxL := 6) (ret := (some .int)) (by decide) rfl ?_
  intro p e s m args below meth c s₁ B hml hv
  obtain ⟨rfl, hP, hKK⟩ := hv
  have hK := hKK.1
  have hx := B.exec
  have hb := B.bytes
  have hr := B.returns
  have hts := atoms_spec (ws := wsX3_kindsSeen) B.pre
  have hown : s.vm.findClass RX3 = some m.cls := findClass_of_methodNamed B.named
  have hlocks := B.notSynchronized
  have hl := lv_entry ([.int (nI w), .ref hq, .int (nI i), .int (nI t)]) (n := 6) (Nat.le_of_ble_eq_true rfl)
  rw [lg_entry_eq]
  generalize (lg_sl ([.int (nI w), .ref hq, .int (nI i), .int (nI t)]) ++ List.replicate (6 - (lg_sl ([.int (nI w), .ref hq, .int (nI i), .int (nI t)])).length) Slot.unset).toArray = ls at hl ⊢
  have hl : lv_has ls 6 [(0, .int (nI w)), (1, .ref hq), (2, .int (nI i)), (3, .int (nI t))] := hl
  refine lv_iconst (v := (nI 0)) hx hb dX3_kindsSeen_0 (by decide) ?_
  refine lv_istore (lv' := [(4, .int (nI 0)), (0, .int (nI w)), (1, .ref hq), (2, .int (nI i)), (3, .int (nI t))]) hx hb dX3_kindsSeen_1 hl (by decide) rfl (fun ls hl => ?_)
  refine lv_iconst (v := (nI 0)) hx hb dX3_kindsSeen_3 (by decide) ?_
  refine lv_istore (lv' := [(5, .int (nI 0)), (4, .int (nI 0)), (0, .int (nI w)), (1, .ref hq), (2, .int (nI i)), (3, .int (nI t))]) hx hb dX3_kindsSeen_4 hl (by decide) rfl (fun ls hl => ?_)
  refine rl1 (A1 := Nat) (fun ls => W p l e _ s m _ below meth c s.heap [] 0 0 _ (F0 m 6 ls [])) (fun kd ls => kd ≤ 5 ∧ lv_has ls 6 [(5, .int (nI kd)), (4, .int (nI (orS (fun kd => skB kd w row i t) kd))), (0, .int (nI w)), (1, .ref hq), (2, .int (nI i)), (3, .int (nI t))]) (fun kd => 5 - kd) ?_ 0 ls ⟨by omega, lv_sub hl [0, 1, 2, 3, 4, 5] rfl⟩
  rintro kd ls ⟨hi, hl⟩ ih6
  refine lv_iload hx hb dX3_kindsSeen_6 (lv_at hl 0 rfl) ?_
  refine lv_iconst (v := (nI 5)) hx hb dX3_kindsSeen_8 (by decide) ?_
  refine rn_icmp_ge (tgt := 43) hx hb dX3_kindsSeen_9 (by decide) (by omega) (by omega) (fun c9 => ?_) (fun c9 => ?_)
  · skip
    refine lv_iload hx hb dX3_kindsSeen_43 (lv_at hl 1 rfl) ?_
    exact rr_iret hx hb hr hlocks dX3_kindsSeen_45 (by rw [Nat.le_antisymm hi c9])
  refine lv_iload hx hb dX3_kindsSeen_12 (lv_at hl 1 rfl) ?_
  refine lv_iload hx hb dX3_kindsSeen_14 (lv_at hl 0 rfl) ?_
  refine lv_iload_n hx hb dX3_kindsSeen_16 rfl (lv_at hl 2 rfl) ?_
  refine lv_aload_n hx hb dX3_kindsSeen_17 rfl (lv_at hl 3 rfl) ?_
  refine lv_iload_n hx hb dX3_kindsSeen_18 rfl (lv_at hl 4 rfl) ?_
  refine lv_iload_n hx hb dX3_kindsSeen_19 rfl (lv_at hl 5 rfl) ?_
  refine rr_callR (va_runS (As := [.int (nI kd), .int (nI w), .ref hq, .int (nI i), .int (nI t)]) (rest := [.int (nI (orS (fun kd => skB kd w row i t) kd))]) ⟨hx, hb, hml, hown, hts⟩ (c_X3_isKindSeen l dC dI cI cJ cS kd w hq row i t (by first | assumption | omega) (by first | assumption | omega) (by first | assumption | omega) (by first | assumption | omega)) (va_cwS 5 hts gX3_kindsSeen_X3_isKindSeen rfl rfl rfl (by decide +kernel) ⟨Nat.le_of_ble_eq_true rfl, Nat.le_of_ble_eq_true rfl⟩) (rr_preS hKK hP) rfl rfl hl.1 rfl (lv_room (Nat.le_of_ble_eq_true rfl)) dX3_kindsSeen_20 ⟨Nat.zero_le _, Nat.zero_le _⟩) ?_
  refine rb_if_eq (tgt := 33) hx hb dX3_kindsSeen_23 (by decide) (fun c23 => ?_) (fun c23 => ?_)
  · skip
    refine lv_iconst (v := (nI 0)) hx hb dX3_kindsSeen_33 (by decide) ?_
    refine lv_ior hx hb dX3_kindsSeen_34 ?_
    refine rr_top (y := (nI (orS (fun kd => skB kd w row i t) (kd + 1)))) (by rw [or_eq, orS, c23]; rfl) ?_
    refine lv_istore (lv' := [(4, .int (nI (orS (fun kd => skB kd w row i t) (kd + 1)))), (5, .int (nI kd)), (0, .int (nI w)), (1, .ref hq), (2, .int (nI i)), (3, .int (nI t))]) hx hb dX3_kindsSeen_35 hl (by decide) rfl (fun ls hl => ?_)
    refine lv_iinc (v := (nI (kd + 1))) (lv' := [(5, .int (nI (kd + 1))), (4, .int (nI (orS (fun kd => skB kd w row i t) (kd + 1)))), (0, .int (nI w)), (1, .ref hq), (2, .int (nI i)), (3, .int (nI t))]) hx hb dX3_kindsSeen_37 hl (k := 1) rfl (rn_inc kd 1) (by decide) rfl (fun ls hl => ?_)
    refine lv_goto (tgt := 6) hx hb dX3_kindsSeen_40 (by decide) ?_
    exact ih6 (kd + 1) ls ⟨by omega, lv_sub hl [0, 1, 2, 3, 4, 5] rfl⟩ (by omega)
  refine lv_iconst (v := (nI 1)) hx hb dX3_kindsSeen_26 (by decide) ?_
  refine lv_iload hx hb dX3_kindsSeen_27 (lv_at hl 0 rfl) ?_
  refine lv_ishl hx hb dX3_kindsSeen_29 ?_
  refine lv_goto (tgt := 34) hx hb dX3_kindsSeen_30 (by decide) ?_
  refine rr_top (y := nI (2 ^ kd)) (shl_eq (by omega)) ?_
  refine lv_ior hx hb dX3_kindsSeen_34 ?_
  refine rr_top (y := (nI (orS (fun kd => skB kd w row i t) (kd + 1)))) (by rw [or_eq, orS, c23]; rfl) ?_
  refine lv_istore (lv' := [(4, .int (nI (orS (fun kd => skB kd w row i t) (kd + 1)))), (5, .int (nI kd)), (0, .int (nI w)), (1, .ref hq), (2, .int (nI i)), (3, .int (nI t))]) hx hb dX3_kindsSeen_35 hl (by decide) rfl (fun ls hl => ?_)
  refine lv_iinc (v := (nI (kd + 1))) (lv' := [(5, .int (nI (kd + 1))), (4, .int (nI (orS (fun kd => skB kd w row i t) (kd + 1)))), (0, .int (nI w)), (1, .ref hq), (2, .int (nI i)), (3, .int (nI t))]) hx hb dX3_kindsSeen_37 hl (k := 1) rfl (rn_inc kd 1) (by decide) rfl (fun ls hl => ?_)
  refine lv_goto (tgt := 6) hx hb dX3_kindsSeen_40 (by decide) ?_
  exact ih6 (kd + 1) ls ⟨by omega, lv_sub hl [0, 1, 2, 3, 4, 5] rfl⟩ (by omega)
set_option maxHeartbeats 4000000 in
set_option maxRecDepth 100000 in
theorem c_X3_mayHave (l : Launch) (dC : Nat → ClassId) (dI : Nat → Nat → Nat) (cI cJ cS : ClassId) (h3 hk hw hs : Nat) (n h rg sp : Nat) (kf wf sf : Nat → Int32) (Kd Wd Sh : Nat → Nat) (x : Nat) (ok : wOk n Kd Wd) (fw : isA n wf Wd) (hx2 : x < 2 ^ 31) : Met l yX3_mayHave wsX3_mayHave ({ frames := 1, cells := 0, slots := 0, locals := 25 }) (va_Pc [.ref h3, .int (nI x)] (rB (dC, dI) vwCl [(h3, .inr (3, [.int (nI n), .int (nI h), .int (nI rg), .int (nI sp), .ref hk, .ref hw, .ref hs])), (hk, .inl (cI, 6, .inl kf)), (hw, .inl (cI, 6, .inl wf)), (hs, .inl (cI, 6, .inl sf))] (tyz cI cJ cS))) (QcRead (bi (mayB n Wd x))) 0 0 (fun _ => False) := by
  refine Met.ofW (cc := cX3_mayHave) (maxL := 3) (ret := (some .boolean)) (by decide) rfl ?_
  intro p e s m args below meth c s₁ B hml hv
  obtain ⟨rfl, hP, hKK⟩ := hv
  have hK := hKK.1
  have hx := B.exec
  have hb := B.bytes
  have hr := B.returns
  have hts := atoms_spec (ws := wsX3_mayHave) B.pre
  have hown : s.vm.findClass RX3 = some m.cls := findClass_of_methodNamed B.named
  have hlocks := B.notSynchronized
  have hiX3 : ∀ w ∈ wsX30, w ∈ wsX3_mayHave := by decide +kernel
  have hl := lv_entry ([.ref h3, .int (nI x)]) (n := 3) (Nat.le_of_ble_eq_true rfl)
  rw [lg_entry_eq]
  generalize (lg_sl ([.ref h3, .int (nI x)]) ++ List.replicate (3 - (lg_sl ([.ref h3, .int (nI x)])).length) Slot.unset).toArray = ls at hl ⊢
  have hl : lv_has ls 3 [(0, .ref h3), (1, .int (nI x))] := hl
  have hn6 := ok.1
  refine lv_iload_n hx hb dX3_mayHave_0 rfl (lv_at hl 1 rfl) ?_
  refine lv_iconst (v := (nI 2)) hx hb dX3_mayHave_1 (by decide) ?_
  refine rn_icmp_lt (tgt := 20) hx hb dX3_mayHave_2 (by decide) (by omega) (by omega) (fun c2 => ?_) (fun c2 => ?_)
  · skip
    refine lv_iconst (v := (nI 0)) hx hb dX3_mayHave_20 (by decide) ?_
    refine rr_top (y := bi false) rfl ?_
    exact rr_zret hx hb hr hlocks dX3_mayHave_21 (by unfold mayB; rw [decide_eq_false (by omega)]; rfl)
  refine lv_iload_n hx hb dX3_mayHave_5 rfl (lv_at hl 1 rfl) ?_
  refine lv_bipush (v := (nI 19)) hx hb dX3_mayHave_6 (by decide) ?_
  refine rn_icmp_gt (tgt := 20) hx hb dX3_mayHave_8 (by decide) (by omega) (by omega) (fun c8 => ?_) (fun c8 => ?_)
  · skip
    refine lv_iconst (v := (nI 0)) hx hb dX3_mayHave_20 (by decide) ?_
    refine rr_top (y := bi false) rfl ?_
    exact rr_zret hx hb hr hlocks dX3_mayHave_21 (by unfold mayB; rw [decide_eq_false (by omega)]; rfl)
  refine lv_aload_n hx hb dX3_mayHave_11 rfl (lv_at hl 0 rfl) ?_
  refine va_get (D := (dC, dI)) (ci := 3) (v := .int (nI n)) (C := RX3) (T := TX3) (N := 7) hx hb hts hiX3 hown hK hP 0 rfl rfl 0 (by decide) (hts (.fieldLink RX3 28 "RestRegisters$Wheels" "size" "I") (by decide +kernel)) (fun _ h9 => h9) rfl dX3_mayHave_12 ?_
  refine lv_bipush (v := (nI 6)) hx hb dX3_mayHave_15 (by decide) ?_
  refine rn_icmp_lt (tgt := 22) hx hb dX3_mayHave_17 (by decide) (by omega) (by omega) (fun c17 => ?_) (fun c17 => ?_)
  · skip
    refine lv_iconst (v := (nI 0)) hx hb dX3_mayHave_22 (by decide) ?_
    refine lv_istore_n (lv' := [(2, .int (nI 0)), (0, .ref h3), (1, .int (nI x))]) hx hb dX3_mayHave_23 rfl hl (by decide) rfl (fun ls hl => ?_)
    refine rl1 (A1 := Nat) (fun ls => W p l e _ s m _ below meth c s.heap [] 0 0 _ (F0 m 24 ls [])) (fun k ls => k ≤ n ∧ copB Wd x k = true ∧ lv_has ls 3 [(2, .int (nI k)), (0, .ref h3), (1, .int (nI x))]) (fun k => n - k) ?_ 0 ls ⟨by omega, rfl, lv_sub hl [0, 1, 2] rfl⟩
    rintro k ls ⟨hi, hc, hl⟩ ih24
    refine lv_iload_n hx hb dX3_mayHave_24 rfl (lv_at hl 0 rfl) ?_
    refine lv_aload_n hx hb dX3_mayHave_25 rfl (lv_at hl 1 rfl) ?_
    refine va_get (D := (dC, dI)) (ci := 3) (v := .int (nI n)) (C := RX3) (T := TX3) (N := 7) hx hb hts hiX3 hown hK hP 0 rfl rfl 0 (by decide) (hts (.fieldLink RX3 28 "RestRegisters$Wheels" "size" "I") (by decide +kernel)) (fun _ h9 => h9) rfl dX3_mayHave_26 ?_
    refine rn_icmp_ge (tgt := 54) hx hb dX3_mayHave_29 (by decide) (by omega) (by omega) (fun c29 => ?_) (fun c29 => ?_)
    · skip
      refine lv_iconst (v := (nI 1)) hx hb dX3_mayHave_54 (by decide) ?_
      refine rr_top (y := bi true) rfl ?_
      exact rr_zret hx hb hr hlocks dX3_mayHave_55 (by have ek : k = n := Nat.le_antisymm hi c29; subst ek; unfold mayB; rw [hc, decide_eq_true ⟨c2, c8, c17⟩]; rfl)
    refine lv_aload_n hx hb dX3_mayHave_32 rfl (lv_at hl 1 rfl) ?_
    refine va_get (D := (dC, dI)) (ci := 3) (v := .ref hw) (C := RX3) (T := TX3) (N := 7) hx hb hts hiX3 hown hK hP 0 rfl rfl 5 (by decide) (hts (.fieldLink RX3 22 "RestRegisters$Wheels" "widths" "[I") (by decide +kernel)) (fun _ h9 => h9) rfl dX3_mayHave_33 ?_
    refine lv_iload_n hx hb dX3_mayHave_36 rfl (lv_at hl 0 rfl) ?_
    refine rn_iald hx hb hK hP 2 0 rfl rfl (i := k) (by omega) (by decide) (v := (nI (Wd k))) (fw k (by omega)) dX3_mayHave_37 ?_
    have hv37 := ok.2.2.1 k (by omega)
    refine lv_iload_n hx hb dX3_mayHave_38 rfl (lv_at hl 2 rfl) ?_
    refine rr_callR (va_runSN (As := [.int (nI (Wd k)), .int (nI x)]) (rest := []) ⟨hx, hb, hml, hown, hts⟩ (c_X4_commonPart l (Wd k) x (by first | assumption | omega) (by first | assumption | omega)) ⟨va_cnB 2 hts gX3_mayHave_X4_commonPart_n34 rfl rfl rfl hKK.2.2.2.2.2.2.1 (hts (.initialized RX4) (by decide +kernel)) (by decide +kernel) ⟨Nat.le_of_ble_eq_true rfl, Nat.le_of_ble_eq_true rfl⟩, hts (.static yX4_commonPart) (by decide +kernel), trivial⟩ rr_preT rfl rfl hl.1 rfl (lv_room (Nat.le_of_ble_eq_true rfl)) dX3_mayHave_39 ⟨Nat.zero_le _, Nat.zero_le _⟩) ?_
    have hgl := Nat.gcd_le_right (Wd k) (n := x) (by omega)
    refine lv_iconst (v := (nI 1)) hx hb dX3_mayHave_42 (by decide) ?_
    refine rn_icmp_eq (tgt := 48) hx hb dX3_mayHave_43 (by decide) (by omega) (by omega) (fun c43 => ?_) (fun c43 => ?_)
    · skip
      refine lv_iinc (v := (nI (k + 1))) (lv' := [(2, .int (nI (k + 1))), (0, .ref h3), (1, .int (nI x))]) hx hb dX3_mayHave_48 hl (k := 0) rfl (rn_inc k 1) (by decide) rfl (fun ls hl => ?_)
      refine lv_goto (tgt := 24) hx hb dX3_mayHave_51 (by decide) ?_
      exact ih24 (k + 1) ls ⟨by omega, by rw [copB, hc, decide_eq_true c43]; rfl, lv_sub hl [0, 1, 2] rfl⟩ (by omega)
    refine lv_iconst (v := (nI 0)) hx hb dX3_mayHave_46 (by decide) ?_
    refine rr_top (y := bi false) rfl ?_
    exact rr_zret hx hb hr hlocks dX3_mayHave_47 (by unfold mayB; rw [copB_f (show copB Wd x (k + 1) = false by rw [copB, hc, decide_eq_false c43]; rfl) n c29, Bool.and_false])
  refine lv_iconst (v := (nI 0)) hx hb dX3_mayHave_20 (by decide) ?_
  refine rr_top (y := bi false) rfl ?_
  exact rr_zret hx hb hr hlocks dX3_mayHave_21 (by unfold mayB; rw [decide_eq_false (by omega)]; rfl)
