set_option maxHeartbeats 4000000 in
set_option maxRecDepth 100000 in
theorem c_X5_isWheel (l : Launch) (dC : Nat → ClassId) (dI : Nat → Nat → Nat) (cI cJ cS : ClassId) (m0 mw mt ml mz mi mr md mh : Nat) (im : Bool) (tl at0 st0 nu rm rh : Nat) (Bw : Nat → Nat) (x : Int32) (hm : mOk Bw) : Met l yX5_isWheel wsX5_isWheel ({ frames := 1, cells := 0, slots := 0, locals := 25 }) (va_Pc [.ref m0, .int x] (rB (dC, dI) vwCl [(m0, .inr (5, [.ref mw, .int (bi im), .ref mt, .int (nI tl), .ref ml, .ref mz, .ref mi, .ref mr, .int (nI at0), .int (nI st0), .int (nI nu), .int (nI rm), .int (nI rh), .ref md, .ref mh])), (mw, .inl (cI, 480, .inl (nA Bw)))] (tyz cI cJ cS))) (QcRead (bi (inb x (Bw 0)))) 0 0 (fun _ => False) := by
  refine Met.ofW (cc := cX5_isWheel) (maxL := 2) (ret := (some .boolean)) (by decide) rfl ?_
  intro p e s m args below meth c s₁ B hml hv
  obtain ⟨rfl, hP, hKK⟩ := hv
  have hK := hKK.1
  have hx := B.exec
  have hb := B.bytes
  have hr := B.returns
  have hts := atoms_spec (ws := wsX5_isWheel) B.pre
  have hown : s.vm.findClass RX5 = some m.cls := findClass_of_methodNamed B.named
  have hlocks := B.notSynchronized
  have hiX5 : ∀ w ∈ wsX50, w ∈ wsX5_isWheel := by decide +kernel
  have hl := lv_entry ([.ref m0, .int x]) (n := 2) (Nat.le_of_ble_eq_true rfl)
  rw [lg_entry_eq]
  generalize (lg_sl ([.ref m0, .int x]) ++ List.replicate (2 - (lg_sl ([.ref m0, .int x])).length) Slot.unset).toArray = ls at hl ⊢
  have hl : lv_has ls 2 [(0, .ref m0), (1, .int x)] := hl
  have hn6 := hm.n
  refine lv_iload_n hx hb dX5_isWheel_0 rfl (lv_at hl 1 rfl) ?_
  refine lv_i2l hx hb dX5_isWheel_1 rfl ?_
  refine lv_lconst (v := 0) hx hb dX5_isWheel_2 (by decide) ?_
  refine lv_aload_n hx hb dX5_isWheel_3 rfl (lv_at hl 0 rfl) ?_
  refine va_get (D := (dC, dI)) (ci := 5) (v := .ref mw) (C := RX5) (T := TX5) (N := 15) hx hb hts hiX5 hown hK hP 0 rfl rfl 0 (by decide) (hts (.fieldLink RX5 7 "RestRegistersModel" "w" "[I") (by decide +kernel)) (fun _ h9 => h9) rfl dX5_isWheel_4 ?_
  refine lv_iconst (v := (nI 0)) hx hb dX5_isWheel_7 (by decide) ?_
  refine rn_iald hx hb hK hP 1 0 rfl rfl (i := 0) (by omega) (by decide) (v := (nI (Bw 0))) rfl dX5_isWheel_8 ?_
  refine lv_iconst (v := (nI 1)) hx hb dX5_isWheel_9 (by decide) ?_
  refine lv_isub hx hb dX5_isWheel_10 ?_
  refine lv_i2l hx hb dX5_isWheel_11 rfl ?_
  refine rr_callR (va_runS (As := [.long x.toInt64, .long 0, .long (((nI (Bw 0)) - (nI 1)).toInt64)]) (rest := []) ⟨hx, hb, hml, hown, hts⟩ (c_X5_in l x.toInt64 0 (((nI (Bw 0)) - (nI 1)).toInt64) ) (va_cwS 3 hts gX5_isWheel_X5_in rfl rfl rfl (by decide +kernel) ⟨Nat.le_of_ble_eq_true rfl, Nat.le_of_ble_eq_true rfl⟩) rr_preT rfl rfl hl.1 rfl (lv_room (Nat.le_of_ble_eq_true rfl)) dX5_isWheel_12 ⟨Nat.zero_le _, Nat.zero_le _⟩) ?_
  exact rr_zret hx hb hr hlocks dX5_isWheel_15 (inL_inb (by omega))
set_option maxHeartbeats 4000000 in
set_option maxRecDepth 100000 in
theorem c_X5_added (l : Launch) (dC : Nat → ClassId) (dI : Nat → Nat → Nat) (cI cJ cS : ClassId) (m0 mw mt ml mz mi mr md mh : Nat) (im : Bool) (tl at0 st0 nu rm rh : Nat) (Bw : Nat → Nat) (k a b kd w : Nat) (hc1 : Bw (2 + k) = kd) (hc2 : Bw (8 + k) = w) (hkd : kd ≤ 4) (hw2 : 2 ≤ w) (hwb : w ≤ 19) (hk6 : k < 6) (ha : a < w) (hb2 : b < w) : Met l yX5_added wsX5_added ({ frames := 3, cells := 0, slots := 0, locals := 68 }) (va_Pc [.ref m0, .int (nI k), .int (nI a), .int (nI b)] (rB (dC, dI) vwCl [(m0, .inr (5, [.ref mw, .int (bi im), .ref mt, .int (nI tl), .ref ml, .ref mz, .ref mi, .ref mr, .int (nI at0), .int (nI st0), .int (nI nu), .int (nI rm), .int (nI rh), .ref md, .ref mh])), (mw, .inl (cI, 480, .inl (nA Bw)))] (tyz cI cJ cS))) (QcRead (nI (addK kd w a b))) 0 0 (fun _ => False) := by
  refine Met.ofW (cc := cX5_added) (maxL := 4) (ret := (some .int)) (by decide) rfl ?_
  intro p e s m args below meth c s₁ B hml hv
  obtain ⟨rfl, hP, hKK⟩ := hv
  have hK := hKK.1
  have hx := B.exec
  have hb := B.bytes
  have hr := B.returns
  have hts := atoms_spec (ws := wsX5_added) B.pre
  have hown : s.vm.findClass RX5 = some m.cls := findClass_of_methodNamed B.named
  have hlocks := B.notSynchronized
  have hiX5 : ∀ w ∈ wsX50, w ∈ wsX5_added := by decide +kernel
  have hl := lv_entry ([.ref m0, .int (nI k), .int (nI a), .int (nI b)]) (n := 4) (Nat.le_of_ble_eq_true rfl)
  rw [lg_entry_eq]
  generalize (lg_sl ([.ref m0, .int (nI k), .int (nI a), .int (nI b)]) ++ List.replicate (4 - (lg_sl ([.ref m0, .int (nI k), .int (nI a), .int (nI b)])).length) Slot.unset).toArray = ls at hl ⊢
  have hl : lv_has ls 4 [(0, .ref m0), (1, .int (nI k)), (2, .int (nI a)), (3, .int (nI b))] := hl
  refine lv_aload_n hx hb dX5_added_0 rfl (lv_at hl 0 rfl) ?_
  refine va_get (D := (dC, dI)) (ci := 5) (v := .ref mw) (C := RX5) (T := TX5) (N := 15) hx hb hts hiX5 hown hK hP 0 rfl rfl 0 (by decide) (hts (.fieldLink RX5 7 "RestRegistersModel" "w" "[I") (by decide +kernel)) (fun _ h9 => h9) rfl dX5_added_1 ?_
  refine lv_iconst (v := (nI 2)) hx hb dX5_added_4 (by decide) ?_
  refine lv_iload_n hx hb dX5_added_5 rfl (lv_at hl 1 rfl) ?_
  refine rn_iadd hx hb dX5_added_6 ?_
  refine rn_iald hx hb hK hP 1 0 rfl rfl (i := 2 + k) (by omega) (by decide) (v := (nI kd)) (congrArg nI hc1) dX5_added_7 ?_
  refine lv_aload_n hx hb dX5_added_8 rfl (lv_at hl 0 rfl) ?_
  refine va_get (D := (dC, dI)) (ci := 5) (v := .ref mw) (C := RX5) (T := TX5) (N := 15) hx hb hts hiX5 hown hK hP 0 rfl rfl 0 (by decide) (hts (.fieldLink RX5 7 "RestRegistersModel" "w" "[I") (by decide +kernel)) (fun _ h9 => h9) rfl dX5_added_9 ?_
  refine lv_bipush (v := (nI 8)) hx hb dX5_added_12 (by decide) ?_
  refine lv_iload_n hx hb dX5_added_14 rfl (lv_at hl 1 rfl) ?_
  refine rn_iadd hx hb dX5_added_15 ?_
  refine rn_iald hx hb hK hP 1 0 rfl rfl (i := 8 + k) (by omega) (by decide) (v := (nI w)) (congrArg nI hc2) dX5_added_16 ?_
  refine lv_iload_n hx hb dX5_added_17 rfl (lv_at hl 2 rfl) ?_
  refine lv_iload_n hx hb dX5_added_18 rfl (lv_at hl 3 rfl) ?_
  refine rr_callR (va_runS (As := [.int (nI kd), .int (nI w), .int (nI a), .int (nI b)]) (rest := []) ⟨hx, hb, hml, hown, hts⟩ (c_X5_addedBy l kd w a b (by first | assumption | omega) (by first | assumption | omega) (by first | assumption | omega) (by first | assumption | omega) (by first | assumption | omega)) (va_cwS 4 hts gX5_added_X5_addedBy rfl rfl rfl (by decide +kernel) ⟨Nat.le_of_ble_eq_true rfl, Nat.le_of_ble_eq_true rfl⟩) rr_preT rfl rfl hl.1 rfl (lv_room (Nat.le_of_ble_eq_true rfl)) dX5_added_19 ⟨Nat.zero_le _, Nat.zero_le _⟩) ?_
  exact rr_iret hx hb hr hlocks dX5_added_22 (rfl)
set_option maxHeartbeats 4000000 in
set_option maxRecDepth 100000 in
theorem c_X5_timed (l : Launch) (dC : Nat → ClassId) (dI : Nat → Nat → Nat) (cI cJ cS : ClassId) (m0 mw mt ml mz mi mr md mh : Nat) (im : Bool) (tl at0 st0 nu rm rh : Nat) (Bw : Nat → Nat) (k a b kd w : Nat) (hc1 : Bw (2 + k) = kd) (hc2 : Bw (8 + k) = w) (hkd : kd ≤ 4) (hw2 : 2 ≤ w) (hwb : w ≤ 19) (hk6 : k < 6) (ha : a < w) (hb2 : b < w) : Met l yX5_timed wsX5_timed ({ frames := 4, cells := 0, slots := 0, locals := 91 }) (va_Pc [.ref m0, .int (nI k), .int (nI a), .int (nI b)] (rB (dC, dI) vwCl [(m0, .inr (5, [.ref mw, .int (bi im), .ref mt, .int (nI tl), .ref ml, .ref mz, .ref mi, .ref mr, .int (nI at0), .int (nI st0), .int (nI nu), .int (nI rm), .int (nI rh), .ref md, .ref mh])), (mw, .inl (cI, 480, .inl (nA Bw)))] (tyz cI cJ cS))) (QcRead (nI (addO kd w 0 a b))) 0 0 (fun _ => False) := by
  refine Met.ofW (cc := cX5_timed) (maxL := 6) (ret := (some .int)) (by decide) rfl ?_
  intro p e s m args below meth c s₁ B hml hv
  obtain ⟨rfl, hP, hKK⟩ := hv
  have hK := hKK.1
  have hx := B.exec
  have hb := B.bytes
  have hr := B.returns
  have hts := atoms_spec (ws := wsX5_timed) B.pre
  have hown : s.vm.findClass RX5 = some m.cls := findClass_of_methodNamed B.named
  have hlocks := B.notSynchronized
  have hl := lv_entry ([.ref m0, .int (nI k), .int (nI a), .int (nI b)]) (n := 6) (Nat.le_of_ble_eq_true rfl)
  rw [lg_entry_eq]
  generalize (lg_sl ([.ref m0, .int (nI k), .int (nI a), .int (nI b)]) ++ List.replicate (6 - (lg_sl ([.ref m0, .int (nI k), .int (nI a), .int (nI b)])).length) Slot.unset).toArray = ls at hl ⊢
  have hl : lv_has ls 6 [(0, .ref m0), (1, .int (nI k)), (2, .int (nI a)), (3, .int (nI b))] := hl
  refine lv_iconst (v := (nI 0)) hx hb dX5_timed_0 (by decide) ?_
  refine lv_istore (lv' := [(4, .int (nI 0)), (0, .ref m0), (1, .int (nI k)), (2, .int (nI a)), (3, .int (nI b))]) hx hb dX5_timed_1 hl (by decide) rfl (fun ls hl => ?_)
  refine lv_iconst (v := (nI 0)) hx hb dX5_timed_3 (by decide) ?_
  refine lv_istore (lv' := [(5, .int (nI 0)), (4, .int (nI 0)), (0, .ref m0), (1, .int (nI k)), (2, .int (nI a)), (3, .int (nI b))]) hx hb dX5_timed_4 hl (by decide) rfl (fun ls hl => ?_)
  refine rl1 (A1 := Nat) (fun ls => W p l e _ s m _ below meth c s.heap [] 0 0 _ (F0 m 6 ls [])) (fun i ls => i ≤ b ∧ lv_has ls 6 [(5, .int (nI i)), (4, .int (nI (addO kd w 0 a i))), (0, .ref m0), (1, .int (nI k)), (2, .int (nI a)), (3, .int (nI b))]) (fun i => b - i) ?_ 0 ls ⟨by omega, lv_sub hl [0, 1, 2, 3, 4, 5] rfl⟩
  rintro i ls ⟨hi, hl⟩ ih6
  refine lv_iload hx hb dX5_timed_6 (lv_at hl 0 rfl) ?_
  refine lv_iload_n hx hb dX5_timed_8 rfl (lv_at hl 5 rfl) ?_
  refine rn_icmp_ge (tgt := 28) hx hb dX5_timed_9 (by decide) (by omega) (by omega) (fun c9 => ?_) (fun c9 => ?_)
  · skip
    refine lv_iload hx hb dX5_timed_28 (lv_at hl 1 rfl) ?_
    exact rr_iret hx hb hr hlocks dX5_timed_30 (by rw [Nat.le_antisymm hi c9])
  refine lv_aload_n hx hb dX5_timed_12 rfl (lv_at hl 2 rfl) ?_
  refine lv_iload_n hx hb dX5_timed_13 rfl (lv_at hl 3 rfl) ?_
  refine lv_iload hx hb dX5_timed_14 (lv_at hl 1 rfl) ?_
  refine lv_iload_n hx hb dX5_timed_16 rfl (lv_at hl 4 rfl) ?_
  refine rr_callR (va_runV (As := [.int (nI k), .int (nI (addO kd w 0 a i)), .int (nI a)]) (rest := []) ⟨hx, hb, hml, hown, hts⟩ (c_X5_added l dC dI cI cJ cS m0 mw mt ml mz mi mr md mh im tl at0 st0 nu rm rh Bw k (addO kd w 0 a i) a kd w (by first | assumption | omega) (by first | assumption | omega) (by first | assumption | omega) (by first | assumption | omega) (by first | assumption | omega) (by first | assumption | omega) (addO_lt (by omega) ha i) (ha)) (cwV 3 hts gX5_timed_X5_added rfl rfl rfl (by decide +kernel) ⟨Nat.le_of_ble_eq_true rfl, Nat.le_of_ble_eq_true rfl⟩) (rr_preV hKK hP rfl rfl) rfl rfl hl.1 rfl (lv_room (Nat.le_of_ble_eq_true rfl)) dX5_timed_17 ⟨Nat.zero_le _, Nat.zero_le _⟩) ?_
  refine lv_istore (lv' := [(4, .int (nI (addK kd w (addO kd w 0 a i) a))), (5, .int (nI i)), (0, .ref m0), (1, .int (nI k)), (2, .int (nI a)), (3, .int (nI b))]) hx hb dX5_timed_20 hl (by decide) rfl (fun ls hl => ?_)
  refine lv_iinc (v := (nI (i + 1))) (lv' := [(5, .int (nI (i + 1))), (4, .int (nI (addK kd w (addO kd w 0 a i) a))), (0, .ref m0), (1, .int (nI k)), (2, .int (nI a)), (3, .int (nI b))]) hx hb dX5_timed_22 hl (k := 1) rfl (rn_inc i 1) (by decide) rfl (fun ls hl => ?_)
  refine lv_goto (tgt := 6) hx hb dX5_timed_25 (by decide) ?_
  exact ih6 (i + 1) ls ⟨by omega, lv_sub hl [0, 1, 2, 3, 4, 5] rfl⟩ (by omega)
set_option maxHeartbeats 4000000 in
set_option maxRecDepth 100000 in
theorem c_X5_product (l : Launch) (dC : Nat → ClassId) (dI : Nat → Nat → Nat) (cI cJ cS : ClassId) (m0 mw mt ml mz mi mr md mh : Nat) (im : Bool) (tl at0 st0 nu rm rh : Nat) (Bw : Nat → Nat) (j : Nat) (hm : mOk Bw) (hj : j ≤ Bw 0) : Met l yX5_product wsX5_product ({ frames := 0, cells := 0, slots := 0, locals := 0 }) (va_Pc [.ref m0, .int (nI j)] (rB (dC, dI) vwCl [(m0, .inr (5, [.ref mw, .int (bi im), .ref mt, .int (nI tl), .ref ml, .ref mz, .ref mi, .ref mr, .int (nI at0), .int (nI st0), .int (nI nu), .int (nI rm), .int (nI rh), .ref md, .ref mh])), (mw, .inl (cI, 480, .inl (nA Bw)))] (tyz cI cJ cS))) (QcRead (nI (prW (wdB Bw) j))) 0 0 (fun _ => False) := by
  refine Met.ofW (cc := cX5_product) (maxL := 4) (ret := (some .int)) (by decide) rfl ?_
  intro p e s m args below meth c s₁ B hml hv
  obtain ⟨rfl, hP, hKK⟩ := hv
  have hK := hKK.1
  have hx := B.exec
  have hb := B.bytes
  have hr := B.returns
  have hts := atoms_spec (ws := wsX5_product) B.pre
  have hown : s.vm.findClass RX5 = some m.cls := findClass_of_methodNamed B.named
  have hlocks := B.notSynchronized
  have hiX5 : ∀ w ∈ wsX50, w ∈ wsX5_product := by decide +kernel
  have hl := lv_entry ([.ref m0, .int (nI j)]) (n := 4) (Nat.le_of_ble_eq_true rfl)
  rw [lg_entry_eq]
  generalize (lg_sl ([.ref m0, .int (nI j)]) ++ List.replicate (4 - (lg_sl ([.ref m0, .int (nI j)])).length) Slot.unset).toArray = ls at hl ⊢
  have hl : lv_has ls 4 [(0, .ref m0), (1, .int (nI j))] := hl
  have hn6 := hm.n
  refine lv_iconst (v := (nI 1)) hx hb dX5_product_0 (by decide) ?_
  refine lv_istore_n (lv' := [(2, .int (nI 1)), (0, .ref m0), (1, .int (nI j))]) hx hb dX5_product_1 rfl hl (by decide) rfl (fun ls hl => ?_)
  refine lv_iconst (v := (nI 0)) hx hb dX5_product_2 (by decide) ?_
  refine lv_istore_n (lv' := [(3, .int (nI 0)), (2, .int (nI 1)), (0, .ref m0), (1, .int (nI j))]) hx hb dX5_product_3 rfl hl (by decide) rfl (fun ls hl => ?_)
  refine rl1 (A1 := Nat) (fun ls => W p l e _ s m _ below meth c s.heap [] 0 0 _ (F0 m 4 ls [])) (fun k ls => k ≤ j ∧ lv_has ls 4 [(3, .int (nI k)), (2, .int (nI (prW (wdB Bw) k))), (0, .ref m0), (1, .int (nI j))]) (fun k => j - k) ?_ 0 ls ⟨by omega, lv_sub hl [0, 1, 2, 3] rfl⟩
  rintro k ls ⟨hi, hl⟩ ih4
  refine lv_iload_n hx hb dX5_product_4 rfl (lv_at hl 0 rfl) ?_
  refine lv_iload_n hx hb dX5_product_5 rfl (lv_at hl 3 rfl) ?_
  refine rn_icmp_ge (tgt := 27) hx hb dX5_product_6 (by decide) (by omega) (by omega) (fun c6 => ?_) (fun c6 => ?_)
  · skip
    refine lv_iload_n hx hb dX5_product_27 rfl (lv_at hl 1 rfl) ?_
    exact rr_iret hx hb hr hlocks dX5_product_28 (by rw [Nat.le_antisymm hi c6])
  refine lv_iload_n hx hb dX5_product_9 rfl (lv_at hl 1 rfl) ?_
  refine lv_aload_n hx hb dX5_product_10 rfl (lv_at hl 2 rfl) ?_
  refine va_get (D := (dC, dI)) (ci := 5) (v := .ref mw) (C := RX5) (T := TX5) (N := 15) hx hb hts hiX5 hown hK hP 0 rfl rfl 0 (by decide) (hts (.fieldLink RX5 7 "RestRegistersModel" "w" "[I") (by decide +kernel)) (fun _ h9 => h9) rfl dX5_product_11 ?_
  refine lv_bipush (v := (nI 8)) hx hb dX5_product_14 (by decide) ?_
  refine lv_iload_n hx hb dX5_product_16 rfl (lv_at hl 0 rfl) ?_
  refine rn_iadd hx hb dX5_product_17 ?_
  refine rn_iald hx hb hK hP 1 0 rfl rfl (i := 8 + k) (by omega) (by decide) (v := (nI (wdB Bw k))) rfl dX5_product_18 ?_
  have hv18 := hm.wd k (by omega)
  refine rn_imul hx hb dX5_product_19 ?_
  refine rn_top (y := prW (wdB Bw) (k + 1)) (rfl) ?_
  refine lv_istore_n (lv' := [(2, .int (nI (prW (wdB Bw) (k + 1)))), (3, .int (nI k)), (0, .ref m0), (1, .int (nI j))]) hx hb dX5_product_20 rfl hl (by decide) rfl (fun ls hl => ?_)
  refine lv_iinc (v := (nI (k + 1))) (lv' := [(3, .int (nI (k + 1))), (2, .int (nI (prW (wdB Bw) (k + 1)))), (0, .ref m0), (1, .int (nI j))]) hx hb dX5_product_21 hl (k := 1) rfl (rn_inc k 1) (by decide) rfl (fun ls hl => ?_)
  refine lv_goto (tgt := 4) hx hb dX5_product_24 (by decide) ?_
  exact ih4 (k + 1) ls ⟨by omega, lv_sub hl [0, 1, 2, 3] rfl⟩ (by omega)
set_option maxHeartbeats 4000000 in
set_option maxRecDepth 100000 in
theorem c_X5_range (l : Launch) (dC : Nat → ClassId) (dI : Nat → Nat → Nat) (cI cJ cS : ClassId) (m0 mw mt ml mz mi mr md mh : Nat) (im : Bool) (tl at0 st0 nu rm rh : Nat) (Bw : Nat → Nat) (hm : mOk Bw) : Met l yX5_range wsX5_range ({ frames := 1, cells := 0, slots := 0, locals := 23 }) (va_Pc [.ref m0] (rB (dC, dI) vwCl [(m0, .inr (5, [.ref mw, .int (bi im), .ref mt, .int (nI tl), .ref ml, .ref mz, .ref mi, .ref mr, .int (nI at0), .int (nI st0), .int (nI nu), .int (nI rm), .int (nI rh), .ref md, .ref mh])), (mw, .inl (cI, 480, .inl (nA Bw)))] (tyz cI cJ cS))) (QcRead (nI (rgB Bw))) 0 0 (fun _ => False) := by
  refine Met.ofW (cc := cX5_range) (maxL := 1) (ret := (some .int)) (by decide) rfl ?_
  intro p e s m args below meth c s₁ B hml hv
  obtain ⟨rfl, hP, hKK⟩ := hv
  have hK := hKK.1
  have hx := B.exec
  have hb := B.bytes
  have hr := B.returns
  have hts := atoms_spec (ws := wsX5_range) B.pre
  have hown : s.vm.findClass RX5 = some m.cls := findClass_of_methodNamed B.named
  have hlocks := B.notSynchronized
  have hiX5 : ∀ w ∈ wsX50, w ∈ wsX5_range := by decide +kernel
  have hl := lv_entry ([.ref m0]) (n := 1) (Nat.le_of_ble_eq_true rfl)
  rw [lg_entry_eq]
  generalize (lg_sl ([.ref m0]) ++ List.replicate (1 - (lg_sl ([.ref m0])).length) Slot.unset).toArray = ls at hl ⊢
  have hl : lv_has ls 1 [(0, .ref m0)] := hl
  have hn6 := hm.n
  have hm2 := hm.2.1
  refine lv_aload_n hx hb dX5_range_0 rfl (lv_at hl 0 rfl) ?_
  refine lv_aload_n hx hb dX5_range_1 rfl (lv_at hl 0 rfl) ?_
  refine va_get (D := (dC, dI)) (ci := 5) (v := .ref mw) (C := RX5) (T := TX5) (N := 15) hx hb hts hiX5 hown hK hP 0 rfl rfl 0 (by decide) (hts (.fieldLink RX5 7 "RestRegistersModel" "w" "[I") (by decide +kernel)) (fun _ h9 => h9) rfl dX5_range_2 ?_
  refine lv_iconst (v := (nI 1)) hx hb dX5_range_5 (by decide) ?_
  refine rn_iald hx hb hK hP 1 0 rfl rfl (i := 1) (by omega) (by decide) (v := (nI (Bw 1))) rfl dX5_range_6 ?_
  refine rr_callR (va_runV (As := [.int (nI (Bw 1))]) (rest := []) ⟨hx, hb, hml, hown, hts⟩ (c_X5_product l dC dI cI cJ cS m0 mw mt ml mz mi mr md mh im tl at0 st0 nu rm rh Bw (Bw 1) (by first | assumption | omega) (by first | assumption | omega)) (cwV 1 hts gX5_range_X5_product rfl rfl rfl (by decide +kernel) ⟨Nat.le_of_ble_eq_true rfl, Nat.le_of_ble_eq_true rfl⟩) (rr_preV hKK hP rfl rfl) rfl rfl hl.1 rfl (lv_room (Nat.le_of_ble_eq_true rfl)) dX5_range_7 ⟨Nat.zero_le _, Nat.zero_le _⟩) ?_
  exact rr_iret hx hb hr hlocks dX5_range_10 (rfl)
set_option maxHeartbeats 4000000 in
set_option maxRecDepth 100000 in
theorem c_X5_span (l : Launch) (dC : Nat → ClassId) (dI : Nat → Nat → Nat) (cI cJ cS : ClassId) (m0 mw mt ml mz mi mr md mh : Nat) (im : Bool) (tl at0 st0 nu rm rh : Nat) (Bw : Nat → Nat) (hm : mOk Bw) : Met l yX5_span wsX5_span ({ frames := 1, cells := 0, slots := 0, locals := 23 }) (va_Pc [.ref m0] (rB (dC, dI) vwCl [(m0, .inr (5, [.ref mw, .int (bi im), .ref mt, .int (nI tl), .ref ml, .ref mz, .ref mi, .ref mr, .int (nI at0), .int (nI st0), .int (nI nu), .int (nI rm), .int (nI rh), .ref md, .ref mh])), (mw, .inl (cI, 480, .inl (nA Bw)))] (tyz cI cJ cS))) (QcRead (nI (spB Bw))) 0 0 (fun _ => False) := by
  refine Met.ofW (cc := cX5_span) (maxL := 1) (ret := (some .int)) (by decide) rfl ?_
  intro p e s m args below meth c s₁ B hml hv
  obtain ⟨rfl, hP, hKK⟩ := hv
  have hK := hKK.1
  have hx := B.exec
  have hb := B.bytes
  have hr := B.returns
  have hts := atoms_spec (ws := wsX5_span) B.pre
  have hown : s.vm.findClass RX5 = some m.cls := findClass_of_methodNamed B.named
  have hlocks := B.notSynchronized
  have hiX5 : ∀ w ∈ wsX50, w ∈ wsX5_span := by decide +kernel
  have hl := lv_entry ([.ref m0]) (n := 1) (Nat.le_of_ble_eq_true rfl)
  rw [lg_entry_eq]
  generalize (lg_sl ([.ref m0]) ++ List.replicate (1 - (lg_sl ([.ref m0])).length) Slot.unset).toArray = ls at hl ⊢
  have hl : lv_has ls 1 [(0, .ref m0)] := hl
  have hn6 := hm.n
  refine lv_aload_n hx hb dX5_span_0 rfl (lv_at hl 0 rfl) ?_
  refine lv_aload_n hx hb dX5_span_1 rfl (lv_at hl 0 rfl) ?_
  refine va_get (D := (dC, dI)) (ci := 5) (v := .ref mw) (C := RX5) (T := TX5) (N := 15) hx hb hts hiX5 hown hK hP 0 rfl rfl 0 (by decide) (hts (.fieldLink RX5 7 "RestRegistersModel" "w" "[I") (by decide +kernel)) (fun _ h9 => h9) rfl dX5_span_2 ?_
  refine lv_iconst (v := (nI 0)) hx hb dX5_span_5 (by decide) ?_
  refine rn_iald hx hb hK hP 1 0 rfl rfl (i := 0) (by omega) (by decide) (v := (nI (Bw 0))) rfl dX5_span_6 ?_
  refine rr_callR (va_runV (As := [.int (nI (Bw 0))]) (rest := []) ⟨hx, hb, hml, hown, hts⟩ (c_X5_product l dC dI cI cJ cS m0 mw mt ml mz mi mr md mh im tl at0 st0 nu rm rh Bw (Bw 0) (by first | assumption | omega) (by first | assumption | omega)) (cwV 1 hts gX5_span_X5_product rfl rfl rfl (by decide +kernel) ⟨Nat.le_of_ble_eq_true rfl, Nat.le_of_ble_eq_true rfl⟩) (rr_preV hKK hP rfl rfl) rfl rfl hl.1 rfl (lv_room (Nat.le_of_ble_eq_true rfl)) dX5_span_7 ⟨Nat.zero_le _, Nat.zero_le _⟩) ?_
  exact rr_iret hx hb hr hlocks dX5_span_10 (rfl)
set_option maxHeartbeats 4000000 in
set_option maxRecDepth 100000 in
theorem c_X5_valueOf (l : Launch) (dC : Nat → ClassId) (dI : Nat → Nat → Nat) (cI cJ cS : ClassId) (m0 mw mt ml mz mi mr md mh : Nat) (im : Bool) (tl at0 st0 nu rm rh : Nat) (Bw Rs : Nat → Nat) (hm : mOk Bw) (hrs2 : ∀ j, j < Bw 0 → Rs j < wdB Bw j) : Met l yX5_valueOf wsX5_valueOf ({ frames := 0, cells := 0, slots := 0, locals := 0 }) (va_Pc [.ref m0] (rB (dC, dI) vwCl [(m0, .inr (5, [.ref mw, .int (bi im), .ref mt, .int (nI tl), .ref ml, .ref mz, .ref mi, .ref mr, .int (nI at0), .int (nI st0), .int (nI nu), .int (nI rm), .int (nI rh), .ref md, .ref mh])), (mw, .inl (cI, 480, .inl (nA Bw))), (mr, .inl (cI, 6, .inl (nA Rs)))] (tyz cI cJ cS))) (QcRead (nI (Val (Bw 0) (wdB Bw) Rs))) 0 0 (fun _ => False) := by
  refine Met.ofW (cc := cX5_valueOf) (maxL := 4) (ret := (some .int)) (by decide) rfl ?_
  intro p e s m args below meth c s₁ B hml hv
  obtain ⟨rfl, hP, hKK⟩ := hv
  have hK := hKK.1
  have hx := B.exec
  have hb := B.bytes
  have hr := B.returns
  have hts := atoms_spec (ws := wsX5_valueOf) B.pre
  have hown : s.vm.findClass RX5 = some m.cls := findClass_of_methodNamed B.named
  have hlocks := B.notSynchronized
  have hiX5 : ∀ w ∈ wsX50, w ∈ wsX5_valueOf := by decide +kernel
  have hl := lv_entry ([.ref m0]) (n := 4) (Nat.le_of_ble_eq_true rfl)
  rw [lg_entry_eq]
  generalize (lg_sl ([.ref m0]) ++ List.replicate (4 - (lg_sl ([.ref m0])).length) Slot.unset).toArray = ls at hl ⊢
  have hl : lv_has ls 4 [(0, .ref m0)] := hl
  have hn6 := hm.n
  refine lv_iconst (v := (nI 0)) hx hb dX5_valueOf_0 (by decide) ?_
  refine lv_istore_n (lv' := [(1, .int (nI 0)), (0, .ref m0)]) hx hb dX5_valueOf_1 rfl hl (by decide) rfl (fun ls hl => ?_)
  refine lv_iconst (v := (nI 1)) hx hb dX5_valueOf_2 (by decide) ?_
  refine lv_istore_n (lv' := [(2, .int (nI 1)), (1, .int (nI 0)), (0, .ref m0)]) hx hb dX5_valueOf_3 rfl hl (by decide) rfl (fun ls hl => ?_)
  refine lv_iconst (v := (nI 0)) hx hb dX5_valueOf_4 (by decide) ?_
  refine lv_istore_n (lv' := [(3, .int (nI 0)), (2, .int (nI 1)), (1, .int (nI 0)), (0, .ref m0)]) hx hb dX5_valueOf_5 rfl hl (by decide) rfl (fun ls hl => ?_)
  have hl : lv_has ls 4 [(3, .int (nI 0)), (2, .int (nI 1)), (1, .int (nI (Val 0 (wdB Bw) Rs))), (0, .ref m0)] := by rw [Val_0]; exact hl
  refine rl1 (A1 := Nat) (fun ls => W p l e _ s m _ below meth c s.heap [] 0 0 _ (F0 m 6 ls [])) (fun k ls => k ≤ Bw 0 ∧ lv_has ls 4 [(3, .int (nI k)), (2, .int (nI (prW (wdB Bw) k))), (1, .int (nI (Val k (wdB Bw) Rs))), (0, .ref m0)]) (fun k => Bw 0 - k) ?_ 0 ls ⟨by omega, lv_sub hl [0, 1, 2, 3] rfl⟩
  rintro k ls ⟨hi, hl⟩ ih6
  refine lv_iload_n hx hb dX5_valueOf_6 rfl (lv_at hl 0 rfl) ?_
  refine lv_aload_n hx hb dX5_valueOf_7 rfl (lv_at hl 3 rfl) ?_
  refine va_get (D := (dC, dI)) (ci := 5) (v := .ref mw) (C := RX5) (T := TX5) (N := 15) hx hb hts hiX5 hown hK hP 0 rfl rfl 0 (by decide) (hts (.fieldLink RX5 7 "RestRegistersModel" "w" "[I") (by decide +kernel)) (fun _ h9 => h9) rfl dX5_valueOf_8 ?_
  refine lv_iconst (v := (nI 0)) hx hb dX5_valueOf_11 (by decide) ?_
  refine rn_iald hx hb hK hP 1 0 rfl rfl (i := 0) (by omega) (by decide) (v := (nI (Bw 0))) rfl dX5_valueOf_12 ?_
  refine rn_icmp_ge (tgt := 61) hx hb dX5_valueOf_13 (by decide) (by omega) (by omega) (fun c13 => ?_) (fun c13 => ?_)
  · skip
    refine lv_iload_n hx hb dX5_valueOf_61 rfl (lv_at hl 2 rfl) ?_
    exact rr_iret hx hb hr hlocks dX5_valueOf_62 (by rw [Nat.le_antisymm hi c13])
  have hw2 := hm.wd k (by omega)
  have hl : lv_has ls 4 [(3, .int (nI k)), (2, .int (nI (prW (wdB Bw) k))), (1, .int (nI (Val k (wdB Bw) Rs + 0 * prW (wdB Bw) k))), (0, .ref m0)] := by rw [Nat.zero_mul, Nat.add_zero]; exact hl
  refine rl1 (A1 := Nat) (fun ls => W p l e _ s m _ below meth c s.heap [] 0 0 _ (F0 m 16 ls [])) (fun i ls => i < wdB Bw k ∧ (∀ z, z < i → (Val k (wdB Bw) Rs + z * prW (wdB Bw) k) % wdB Bw k ≠ Rs k) ∧ lv_has ls 4 [(3, .int (nI k)), (2, .int (nI (prW (wdB Bw) k))), (1, .int (nI (Val k (wdB Bw) Rs + i * prW (wdB Bw) k))), (0, .ref m0)]) (fun i => wdB Bw k - i) ?_ 0 ls ⟨by omega, fun z hz => absurd hz (Nat.not_lt_zero z), lv_sub hl [0, 1, 2, 3] rfl⟩
  rintro i ls ⟨hii, hno, hl⟩ ih16
  refine lv_iload_n hx hb dX5_valueOf_16 rfl (lv_at hl 2 rfl) ?_
  refine lv_aload_n hx hb dX5_valueOf_17 rfl (lv_at hl 3 rfl) ?_
  refine va_get (D := (dC, dI)) (ci := 5) (v := .ref mw) (C := RX5) (T := TX5) (N := 15) hx hb hts hiX5 hown hK hP 0 rfl rfl 0 (by decide) (hts (.fieldLink RX5 7 "RestRegistersModel" "w" "[I") (by decide +kernel)) (fun _ h9 => h9) rfl dX5_valueOf_18 ?_
  refine lv_bipush (v := (nI 8)) hx hb dX5_valueOf_21 (by decide) ?_
  refine lv_iload_n hx hb dX5_valueOf_23 rfl (lv_at hl 0 rfl) ?_
  refine rn_iadd hx hb dX5_valueOf_24 ?_
  refine rn_iald hx hb hK hP 1 0 rfl rfl (i := 8 + k) (by omega) (by decide) (v := (nI (wdB Bw k))) rfl dX5_valueOf_25 ?_
  have hv25 := hm.wd k (by omega)
  have hvb := Val_step_b hm.w hrs2 c13 hii
  refine rn_irem hx hb dX5_valueOf_26 (by omega) (by omega) (by omega) ?_
  refine lv_aload_n hx hb dX5_valueOf_27 rfl (lv_at hl 3 rfl) ?_
  refine va_get (D := (dC, dI)) (ci := 5) (v := .ref mr) (C := RX5) (T := TX5) (N := 15) hx hb hts hiX5 hown hK hP 0 rfl rfl 7 (by decide) (hts (.fieldLink RX5 26 "RestRegistersModel" "rests" "[I") (by decide +kernel)) (fun _ h9 => h9) rfl dX5_valueOf_28 ?_
  refine lv_iload_n hx hb dX5_valueOf_31 rfl (lv_at hl 0 rfl) ?_
  refine rn_iald hx hb hK hP 2 0 rfl rfl (i := k) (by omega) (by decide) (v := (nI (Rs k))) rfl dX5_valueOf_32 ?_
  have hq1 := hrs2 k c13
  have hq2 := Nat.mod_lt (Val k (wdB Bw) Rs + i * prW (wdB Bw) k) (show 0 < wdB Bw k by omega)
  refine rn_icmp_eq (tgt := 43) hx hb dX5_valueOf_33 (by decide) (by omega) (by omega) (fun c33 => ?_) (fun c33 => ?_)
  · skip
    have hl : lv_has ls 4 [(3, .int (nI k)), (2, .int (nI (prW (wdB Bw) k))), (1, .int (nI (Val (k + 1) (wdB Bw) Rs))), (0, .ref m0)] := by rw [← Val_succ hm.w hrs2 c13 hii c33]; exact hl
    refine lv_iload_n hx hb dX5_valueOf_43 rfl (lv_at hl 1 rfl) ?_
    refine lv_aload_n hx hb dX5_valueOf_44 rfl (lv_at hl 3 rfl) ?_
    refine va_get (D := (dC, dI)) (ci := 5) (v := .ref mw) (C := RX5) (T := TX5) (N := 15) hx hb hts hiX5 hown hK hP 0 rfl rfl 0 (by decide) (hts (.fieldLink RX5 7 "RestRegistersModel" "w" "[I") (by decide +kernel)) (fun _ h9 => h9) rfl dX5_valueOf_45 ?_
    refine lv_bipush (v := (nI 8)) hx hb dX5_valueOf_48 (by decide) ?_
    refine lv_iload_n hx hb dX5_valueOf_50 rfl (lv_at hl 0 rfl) ?_
    refine rn_iadd hx hb dX5_valueOf_51 ?_
    refine rn_iald hx hb hK hP 1 0 rfl rfl (i := 8 + k) (by omega) (by decide) (v := (nI (wdB Bw k))) rfl dX5_valueOf_52 ?_
    have hv52 := hm.wd k (by omega)
    refine rn_imul hx hb dX5_valueOf_53 ?_
    refine rn_top (y := prW (wdB Bw) (k + 1)) (rfl) ?_
    refine lv_istore_n (lv' := [(2, .int (nI (prW (wdB Bw) (k + 1)))), (3, .int (nI k)), (1, .int (nI (Val (k + 1) (wdB Bw) Rs))), (0, .ref m0)]) hx hb dX5_valueOf_54 rfl hl (by decide) rfl (fun ls hl => ?_)
    refine lv_iinc (v := (nI (k + 1))) (lv' := [(3, .int (nI (k + 1))), (2, .int (nI (prW (wdB Bw) (k + 1)))), (1, .int (nI (Val (k + 1) (wdB Bw) Rs))), (0, .ref m0)]) hx hb dX5_valueOf_55 hl (k := 1) rfl (rn_inc k 1) (by decide) rfl (fun ls hl => ?_)
    refine lv_goto (tgt := 6) hx hb dX5_valueOf_58 (by decide) ?_
    exact ih6 (k + 1) ls ⟨by omega, lv_sub hl [0, 1, 2, 3] rfl⟩ (by omega)
  have hno2 : ∀ z, z < i + 1 → (Val k (wdB Bw) Rs + z * prW (wdB Bw) k) % wdB Bw k ≠ Rs k := fun z hz => by rcases Nat.lt_or_ge z i with q | q; exact hno z q; (have ez : z = i := by omega); rw [ez]; exact c33
  have hi2 : i + 1 < wdB Bw k := by obtain ⟨z, hz1, hz2⟩ := Val_next hm.w hrs2 c13; rcases Nat.lt_or_ge z (i + 1) with q | q; exact absurd hz2 (hno2 z q); omega
  refine lv_iload_n hx hb dX5_valueOf_36 rfl (lv_at hl 2 rfl) ?_
  refine lv_iload_n hx hb dX5_valueOf_37 rfl (lv_at hl 1 rfl) ?_
  refine rn_iadd hx hb dX5_valueOf_38 ?_
  refine rn_top (y := Val k (wdB Bw) Rs + (i + 1) * prW (wdB Bw) k) (by rw [Nat.succ_mul, Nat.add_assoc]) ?_
  refine lv_istore_n (lv' := [(1, .int (nI (Val k (wdB Bw) Rs + (i + 1) * prW (wdB Bw) k))), (3, .int (nI k)), (2, .int (nI (prW (wdB Bw) k))), (0, .ref m0)]) hx hb dX5_valueOf_39 rfl hl (by decide) rfl (fun ls hl => ?_)
  refine lv_goto (tgt := 16) hx hb dX5_valueOf_40 (by decide) ?_
  exact ih16 (i + 1) ls ⟨hi2, hno2, lv_sub hl [1, 2, 0, 3] rfl⟩ (by omega)
set_option maxHeartbeats 4000000 in
set_option maxRecDepth 100000 in
theorem c_X5_looks (l : Launch) (dC : Nat → ClassId) (dI : Nat → Nat → Nat) (cI cJ cS : ClassId) (sz : Nat) (m0 mw mt ml mz mi mr md mh : Nat) (im : Bool) (tl at0 st0 nu rm rh : Nat) (Bw Rs : Nat → Nat) (r : Nat) (hr4 : r < 4) : Met l yX5_looks wsX5_looks ({ frames := 0, cells := 0, slots := 0, locals := 0 }) (va_Pc [.ref m0, .int (nI r)] (rW (dC, dI) vwCl [(m0, .inr (5, [.ref mw, .int (bi im), .ref mt, .int (nI tl), .ref ml, .ref mz, .ref mi, .ref mr, .int (nI at0), .int (nI st0), .int (nI nu), .int (nI rm), .int (nI rh), .ref md, .ref mh])), (mw, .inl (cI, 480, .inl (nA Bw))), (mr, .inl (cI, 6, .inl (nA Rs)))] (tyz cI cJ cS) sz)) (qV (dC, dI) vwCl [(m0, .inr (5, [.ref mw, .int (bi im), .ref mt, .int (nI tl), .ref ml, .ref mz, .ref mi, .ref mr, .int (nI at0), .int (nI st0), .int (nI nu), .int (nI rm), .int (nI rh), .ref md, .ref mh])), (mw, .inl (cI, 480, .inl (nA Bw))), (mr, .inl (cI, 6, .inl (nA (lkN Bw r 6 Rs))))] (va_A [(m0, .inr (5, [.ref mw, .int (bi im), .ref mt, .int (nI tl), .ref ml, .ref mz, .ref mi, .ref mr, .int (nI at0), .int (nI st0), .int (nI nu), .int (nI rm), .int (nI rh), .ref md, .ref mh])), (mw, .inl (cI, 480, .inl (nA Bw))), (mr, .inl (cI, 6, .inl (nA Rs)))] sz)) 0 0 (va_A [(m0, .inr (5, [.ref mw, .int (bi im), .ref mt, .int (nI tl), .ref ml, .ref mz, .ref mi, .ref mr, .int (nI at0), .int (nI st0), .int (nI nu), .int (nI rm), .int (nI rh), .ref md, .ref mh])), (mw, .inl (cI, 480, .inl (nA Bw))), (mr, .inl (cI, 6, .inl (nA Rs)))] sz) := by
  refine Met.ofW (cc := cX5_looks) (maxL := 3) (ret := none) (by decide) rfl ?_
  intro p e s m args below meth c s₁ B hml hv
  obtain ⟨rfl, hsz, hP, hKK, hD0⟩ := hv
  have hK := hKK.1
  have hx := B.exec
  have hb := B.bytes
  have hr := B.returns
  have hts := atoms_spec (ws := wsX5_looks) B.pre
  have hown : s.vm.findClass RX5 = some m.cls := findClass_of_methodNamed B.named
  have hlocks := B.notSynchronized
  subst hsz
  have hD := hD0.self (sz := s.heap.size)
  generalize hAe : va_A [(m0, .inr (5, [.ref mw, .int (bi im), .ref mt, .int (nI tl), .ref ml, .ref mz, .ref mi, .ref mr, .int (nI at0), .int (nI st0), .int (nI nu), .int (nI rm), .int (nI rh), .ref md, .ref mh])), (mw, .inl (cI, 480, .inl (nA Bw))), (mr, .inl (cI, 6, .inl (nA Rs)))] s.heap.size = A at hD ⊢
  have hA : ∀ q : Nat, s.heap.size ≤ q → A q := fun q h => by rw [← hAe]; exact Or.inr h
  have hS : va_S A s.heap s.heap [] := va_S.rf
  have hP : va_P (dC, dI) vwCl [(m0, .inr (5, [.ref mw, .int (bi im), .ref mt, .int (nI tl), .ref ml, .ref mz, .ref mi, .ref mr, .int (nI at0), .int (nI st0), .int (nI nu), .int (nI rm), .int (nI rh), .ref md, .ref mh])), (mw, .inl (cI, 480, .inl (nA Bw))), (mr, .inl (cI, 6, .inl (nA Rs)))] s.heap := hP
  have hiX5 : ∀ w ∈ wsX50, w ∈ wsX5_looks := by decide +kernel
  have hl := lv_entry ([.ref m0, .int (nI r)]) (n := 3) (Nat.le_of_ble_eq_true rfl)
  rw [lg_entry_eq]
  generalize (lg_sl ([.ref m0, .int (nI r)]) ++ List.replicate (3 - (lg_sl ([.ref m0, .int (nI r)])).length) Slot.unset).toArray = ls at hl ⊢
  have hl : lv_has ls 3 [(0, .ref m0), (1, .int (nI r))] := hl
  refine lv_iconst (v := (nI 0)) hx hb dX5_looks_0 (by decide) ?_
  refine lv_istore_n (lv' := [(2, .int (nI 0)), (0, .ref m0), (1, .int (nI r))]) hx hb dX5_looks_1 rfl hl (by decide) rfl (fun ls hl => ?_)
  have ec : nA Rs = nA (lkN Bw r 0 Rs) := lkN_0 _ _ _
  rw [ec] at hP hD
  have hP : va_P (dC, dI) vwCl [(m0, .inr (5, [.ref mw, .int (bi im), .ref mt, .int (nI tl), .ref ml, .ref mz, .ref mi, .ref mr, .int (nI at0), .int (nI st0), .int (nI nu), .int (nI rm), .int (nI rh), .ref md, .ref mh])), (mw, .inl (cI, 480, .inl (nA Bw))), (mr, .inl (cI, 6, .inl (nA (lkN Bw r 0 Rs))))] s.heap := hP
  have hD : va_D A [(m0, .inr (5, [.ref mw, .int (bi im), .ref mt, .int (nI tl), .ref ml, .ref mz, .ref mi, .ref mr, .int (nI at0), .int (nI st0), .int (nI nu), .int (nI rm), .int (nI rh), .ref md, .ref mh])), (mw, .inl (cI, 480, .inl (nA Bw))), (mr, .inl (cI, 6, .inl (nA (lkN Bw r 0 Rs))))] := hD
  refine rlW1 (A1 := Nat) (fun H locs ls => W p l e _ s m _ below meth c H locs 0 0 _ (F0 m 2 ls [])) (fun k H locs ls => k ≤ 6 ∧ va_P (dC, dI) vwCl [(m0, .inr (5, [.ref mw, .int (bi im), .ref mt, .int (nI tl), .ref ml, .ref mz, .ref mi, .ref mr, .int (nI at0), .int (nI st0), .int (nI nu), .int (nI rm), .int (nI rh), .ref md, .ref mh])), (mw, .inl (cI, 480, .inl (nA Bw))), (mr, .inl (cI, 6, .inl (nA (lkN Bw r k Rs))))] H ∧ va_D A [(m0, .inr (5, [.ref mw, .int (bi im), .ref mt, .int (nI tl), .ref ml, .ref mz, .ref mi, .ref mr, .int (nI at0), .int (nI st0), .int (nI nu), .int (nI rm), .int (nI rh), .ref md, .ref mh])), (mw, .inl (cI, 480, .inl (nA Bw))), (mr, .inl (cI, 6, .inl (nA (lkN Bw r k Rs))))] ∧ va_S A s.heap H locs ∧ lv_has ls 3 [(2, .int (nI k)), (0, .ref m0), (1, .int (nI r))]) (fun k => 6 - k) ?_ 0 _ _ ls ⟨by omega, hP, hD, hS, lv_sub hl [0, 1, 2] rfl⟩
  rintro k H locs ls ⟨hk2, hP, hD, hS, hl⟩ ih2
  refine lv_iload_n hx hb dX5_looks_2 rfl (lv_at hl 0 rfl) ?_
  refine lv_bipush (v := (nI 6)) hx hb dX5_looks_3 (by decide) ?_
  refine rn_icmp_ge (tgt := 34) hx hb dX5_looks_5 (by decide) (by omega) (by omega) (fun c5 => ?_) (fun c5 => ?_)
  · skip
    have ek : k = 6 := Nat.le_antisymm hk2 c5
    subst ek
    exact rr_vretW hx hb hr hlocks dX5_looks_34 hP hD hS
  refine lv_aload_n hx hb dX5_looks_8 rfl (lv_at hl 1 rfl) ?_
  refine va_get (D := (dC, dI)) (ci := 5) (v := .ref mr) (C := RX5) (T := TX5) (N := 15) hx hb hts hiX5 hown hK hP 0 rfl rfl 7 (by decide) (hts (.fieldLink RX5 26 "RestRegistersModel" "rests" "[I") (by decide +kernel)) (fun _ h9 => h9) rfl dX5_looks_9 ?_
  refine lv_iload_n hx hb dX5_looks_12 rfl (lv_at hl 0 rfl) ?_
  refine lv_aload_n hx hb dX5_looks_13 rfl (lv_at hl 1 rfl) ?_
  refine va_get (D := (dC, dI)) (ci := 5) (v := .ref mw) (C := RX5) (T := TX5) (N := 15) hx hb hts hiX5 hown hK hP 0 rfl rfl 0 (by decide) (hts (.fieldLink RX5 7 "RestRegistersModel" "w" "[I") (by decide +kernel)) (fun _ h9 => h9) rfl dX5_looks_14 ?_
  refine lv_bipush (v := (nI 15)) hx hb dX5_looks_17 (by decide) ?_
  refine lv_bipush (v := (nI 6)) hx hb dX5_looks_19 (by decide) ?_
  refine lv_iload_n hx hb dX5_looks_21 rfl (lv_at hl 2 rfl) ?_
  refine rn_imul hx hb dX5_looks_22 ?_
  refine rn_iadd hx hb dX5_looks_23 ?_
  refine lv_iload_n hx hb dX5_looks_24 rfl (lv_at hl 0 rfl) ?_
  refine rn_iadd hx hb dX5_looks_25 ?_
  refine rn_iald hx hb hK hP 1 0 rfl rfl (i := 15 + (6 * r) + k) (by omega) (by decide) (v := (nI (rsB Bw (r * 6 + k)))) (rs_at _ _ _) dX5_looks_26 ?_
  refine rn_iast hx hb hK hP hD hS 2 0 rfl rfl (i := k) (by omega) (by decide) (g := nA (uN (lkN Bw r k Rs) k (rsB Bw (r * 6 + k)))) (nA_upd _ _ _) dX5_looks_27 (fun H locs hP hD hS => ?_)
  have hP : va_P (dC, dI) vwCl [(m0, .inr (5, [.ref mw, .int (bi im), .ref mt, .int (nI tl), .ref ml, .ref mz, .ref mi, .ref mr, .int (nI at0), .int (nI st0), .int (nI nu), .int (nI rm), .int (nI rh), .ref md, .ref mh])), (mw, .inl (cI, 480, .inl (nA Bw))), (mr, .inl (cI, 6, .inl (nA (uN (lkN Bw r k Rs) k (rsB Bw (r * 6 + k))))))] H := hP
  have hD : va_D A [(m0, .inr (5, [.ref mw, .int (bi im), .ref mt, .int (nI tl), .ref ml, .ref mz, .ref mi, .ref mr, .int (nI at0), .int (nI st0), .int (nI nu), .int (nI rm), .int (nI rh), .ref md, .ref mh])), (mw, .inl (cI, 480, .inl (nA Bw))), (mr, .inl (cI, 6, .inl (nA (uN (lkN Bw r k Rs) k (rsB Bw (r * 6 + k))))))] := hD
  have ec : nA (uN (lkN Bw r k Rs) k (rsB Bw (r * 6 + k))) = nA (lkN Bw r (k + 1) Rs) := lkN_s _ _ _ _
  rw [ec] at hP hD
  have hP : va_P (dC, dI) vwCl [(m0, .inr (5, [.ref mw, .int (bi im), .ref mt, .int (nI tl), .ref ml, .ref mz, .ref mi, .ref mr, .int (nI at0), .int (nI st0), .int (nI nu), .int (nI rm), .int (nI rh), .ref md, .ref mh])), (mw, .inl (cI, 480, .inl (nA Bw))), (mr, .inl (cI, 6, .inl (nA (lkN Bw r (k + 1) Rs))))] H := hP
  have hD : va_D A [(m0, .inr (5, [.ref mw, .int (bi im), .ref mt, .int (nI tl), .ref ml, .ref mz, .ref mi, .ref mr, .int (nI at0), .int (nI st0), .int (nI nu), .int (nI rm), .int (nI rh), .ref md, .ref mh])), (mw, .inl (cI, 480, .inl (nA Bw))), (mr, .inl (cI, 6, .inl (nA (lkN Bw r (k + 1) Rs))))] := hD
  refine lv_iinc (v := (nI (k + 1))) (lv' := [(2, .int (nI (k + 1))), (0, .ref m0), (1, .int (nI r))]) hx hb dX5_looks_28 hl (k := 0) rfl (rn_inc k 1) (by decide) rfl (fun ls hl => ?_)
  refine lv_goto (tgt := 2) hx hb dX5_looks_31 (by decide) ?_
  exact ih2 (k + 1) _ _ ls ⟨by omega, hP, hD, hS, lv_sub hl [0, 1, 2] rfl⟩ (by omega)
set_option maxHeartbeats 4000000 in
set_option maxRecDepth 100000 in
theorem c_X5_value (l : Launch) (dC : Nat → ClassId) (dI : Nat → Nat → Nat) (cI cJ cS : ClassId) (sz : Nat) (m0 mw mt ml mz mi mr md mh : Nat) (im : Bool) (tl at0 st0 nu rm rh : Nat) (Bw Rs : Nat → Nat) (r : Nat) (hm : mOk Bw) (hr4 : r < 4) : Met l yX5_value wsX5_value ({ frames := 1, cells := 0, slots := 0, locals := 23 }) (va_Pc [.ref m0, .int (nI r)] (rW (dC, dI) vwCl [(m0, .inr (5, [.ref mw, .int (bi im), .ref mt, .int (nI tl), .ref ml, .ref mz, .ref mi, .ref mr, .int (nI at0), .int (nI st0), .int (nI nu), .int (nI rm), .int (nI rh), .ref md, .ref mh])), (mw, .inl (cI, 480, .inl (nA Bw))), (mr, .inl (cI, 6, .inl (nA Rs)))] (tyz cI cJ cS) sz)) (qI (nI (VB Bw r)) (dC, dI) vwCl [(m0, .inr (5, [.ref mw, .int (bi im), .ref mt, .int (nI tl), .ref ml, .ref mz, .ref mi, .ref mr, .int (nI at0), .int (nI st0), .int (nI nu), .int (nI rm), .int (nI rh), .ref md, .ref mh])), (mw, .inl (cI, 480, .inl (nA Bw))), (mr, .inl (cI, 6, .inl (nA (lkN Bw r 6 Rs))))] (va_A [(m0, .inr (5, [.ref mw, .int (bi im), .ref mt, .int (nI tl), .ref ml, .ref mz, .ref mi, .ref mr, .int (nI at0), .int (nI st0), .int (nI nu), .int (nI rm), .int (nI rh), .ref md, .ref mh])), (mw, .inl (cI, 480, .inl (nA Bw))), (mr, .inl (cI, 6, .inl (nA Rs)))] sz)) 0 0 (va_A [(m0, .inr (5, [.ref mw, .int (bi im), .ref mt, .int (nI tl), .ref ml, .ref mz, .ref mi, .ref mr, .int (nI at0), .int (nI st0), .int (nI nu), .int (nI rm), .int (nI rh), .ref md, .ref mh])), (mw, .inl (cI, 480, .inl (nA Bw))), (mr, .inl (cI, 6, .inl (nA Rs)))] sz) := by
  refine Met.ofW (cc := cX5_value) (maxL := 2) (ret := (some .int)) (by decide) rfl ?_
  intro p e s m args below meth c s₁ B hml hv
  obtain ⟨rfl, hsz, hP, hKK, hD0⟩ := hv
  have hK := hKK.1
  have hx := B.exec
  have hb := B.bytes
  have hr := B.returns
  have hts := atoms_spec (ws := wsX5_value) B.pre
  have hown : s.vm.findClass RX5 = some m.cls := findClass_of_methodNamed B.named
  have hlocks := B.notSynchronized
  subst hsz
  have hD := hD0.self (sz := s.heap.size)
  generalize hAe : va_A [(m0, .inr (5, [.ref mw, .int (bi im), .ref mt, .int (nI tl), .ref ml, .ref mz, .ref mi, .ref mr, .int (nI at0), .int (nI st0), .int (nI nu), .int (nI rm), .int (nI rh), .ref md, .ref mh])), (mw, .inl (cI, 480, .inl (nA Bw))), (mr, .inl (cI, 6, .inl (nA Rs)))] s.heap.size = A at hD ⊢
  have hA : ∀ q : Nat, s.heap.size ≤ q → A q := fun q h => by rw [← hAe]; exact Or.inr h
  have hS : va_S A s.heap s.heap [] := va_S.rf
  have hP : va_P (dC, dI) vwCl [(m0, .inr (5, [.ref mw, .int (bi im), .ref mt, .int (nI tl), .ref ml, .ref mz, .ref mi, .ref mr, .int (nI at0), .int (nI st0), .int (nI nu), .int (nI rm), .int (nI rh), .ref md, .ref mh])), (mw, .inl (cI, 480, .inl (nA Bw))), (mr, .inl (cI, 6, .inl (nA Rs)))] s.heap := hP
  have hl := lv_entry ([.ref m0, .int (nI r)]) (n := 2) (Nat.le_of_ble_eq_true rfl)
  rw [lg_entry_eq]
  generalize (lg_sl ([.ref m0, .int (nI r)]) ++ List.replicate (2 - (lg_sl ([.ref m0, .int (nI r)])).length) Slot.unset).toArray = ls at hl ⊢
  have hl : lv_has ls 2 [(0, .ref m0), (1, .int (nI r))] := hl
  refine lv_aload_n hx hb dX5_value_0 rfl (lv_at hl 0 rfl) ?_
  refine lv_iload_n hx hb dX5_value_1 rfl (lv_at hl 1 rfl) ?_
  refine rw_callv (va_runV (As := [.int (nI r)]) (rest := []) ⟨hx, hb, hml, hown, hts⟩ (c_X5_looks l dC dI cI cJ cS _ m0 mw mt ml mz mi mr md mh im tl at0 st0 nu rm rh Bw Rs r (by first | assumption | omega)) (cwV 1 hts gX5_value_X5_looks rfl rfl rfl (by decide +kernel) ⟨Nat.le_of_ble_eq_true rfl, Nat.le_of_ble_eq_true rfl⟩) (rw_preV hKK hP hD rfl rfl) rfl rfl hl.1 rfl (lv_room (Nat.le_of_ble_eq_true rfl)) dX5_value_2 ⟨Nat.zero_le _, Nat.zero_le _⟩) (wr := []) hP hD hS hA [0, 1, 2] [] rfl rfl (by decide) (by decide) (fun H locs hP hD hS => ?_)
  have hP : va_P (dC, dI) vwCl [(m0, .inr (5, [.ref mw, .int (bi im), .ref mt, .int (nI tl), .ref ml, .ref mz, .ref mi, .ref mr, .int (nI at0), .int (nI st0), .int (nI nu), .int (nI rm), .int (nI rh), .ref md, .ref mh])), (mw, .inl (cI, 480, .inl (nA Bw))), (mr, .inl (cI, 6, .inl (nA (lkN Bw r 6 Rs))))] H := hP.sub [0, 1, 2] rfl
  have hD : va_D A [(m0, .inr (5, [.ref mw, .int (bi im), .ref mt, .int (nI tl), .ref ml, .ref mz, .ref mi, .ref mr, .int (nI at0), .int (nI st0), .int (nI nu), .int (nI rm), .int (nI rh), .ref md, .ref mh])), (mw, .inl (cI, 480, .inl (nA Bw))), (mr, .inl (cI, 6, .inl (nA (lkN Bw r 6 Rs))))] := hD.sub [0, 1, 2] (by decide) rfl
  refine lv_aload_n hx hb dX5_value_5 rfl (lv_at hl 0 rfl) ?_
  refine rr_callR (va_runV (As := []) (rest := []) ⟨hx, hb, hml, hown, hts⟩ (c_X5_valueOf l dC dI cI cJ cS m0 mw mt ml mz mi mr md mh im tl at0 st0 nu rm rh Bw (lkN Bw r 6 Rs) (by first | assumption | omega) (lk_lt hm hr4 Rs)) (cwV 0 hts gX5_value_X5_valueOf rfl rfl rfl (by decide +kernel) ⟨Nat.le_of_ble_eq_true rfl, Nat.le_of_ble_eq_true rfl⟩) (rr_preV hKK hP rfl rfl) rfl rfl hl.1 rfl (lv_room (Nat.le_of_ble_eq_true rfl)) dX5_value_6 ⟨Nat.zero_le _, Nat.zero_le _⟩) ?_
  refine rn_top (y := VB Bw r) (lk_val hm.n r Rs) ?_
  exact rr_iretW hx hb hr hlocks dX5_value_9 hP hD hS (rfl)
set_option maxHeartbeats 4000000 in
set_option maxRecDepth 100000 in
theorem c_X5_isLegal (l : Launch) (dC : Nat → ClassId) (dI : Nat → Nat → Nat) (cI cJ cS : ClassId) (sz : Nat) (m0 mw mt ml mz mi mr md mh : Nat) (im : Bool) (tl at0 st0 nu rm rh : Nat) (Bw Rs : Nat → Nat) (r : Nat) (hm : mOk Bw) (hr4 : r < 4) : Met l yX5_isLegal wsX5_isLegal ({ frames := 2, cells := 0, slots := 0, locals := 44 }) (va_Pc [.ref m0, .int (nI r)] (rW (dC, dI) vwCl [(m0, .inr (5, [.ref mw, .int (bi im), .ref mt, .int (nI tl), .ref ml, .ref mz, .ref mi, .ref mr, .int (nI at0), .int (nI st0), .int (nI nu), .int (nI rm), .int (nI rh), .ref md, .ref mh])), (mw, .inl (cI, 480, .inl (nA Bw))), (mr, .inl (cI, 6, .inl (nA Rs)))] (tyz cI cJ cS) sz)) (qI (bi (decide (VB Bw r < rgB Bw))) (dC, dI) vwCl [(m0, .inr (5, [.ref mw, .int (bi im), .ref mt, .int (nI tl), .ref ml, .ref mz, .ref mi, .ref mr, .int (nI at0), .int (nI st0), .int (nI nu), .int (nI rm), .int (nI rh), .ref md, .ref mh])), (mw, .inl (cI, 480, .inl (nA Bw))), (mr, .inl (cI, 6, .inl (nA (lkN Bw r 6 Rs))))] (va_A [(m0, .inr (5, [.ref mw, .int (bi im), .ref mt, .int (nI tl), .ref ml, .ref mz, .ref mi, .ref mr, .int (nI at0), .int (nI st0), .int (nI nu), .int (nI rm), .int (nI rh), .ref md, .ref mh])), (mw, .inl (cI, 480, .inl (nA Bw))), (mr, .inl (cI, 6, .inl (nA Rs)))] sz)) 0 0 (va_A [(m0, .inr (5, [.ref mw, .int (bi im), .ref mt, .int (nI tl), .ref ml, .ref mz, .ref mi, .ref mr, .int (nI at0), .int (nI st0), .int (nI nu), .int (nI rm), .int (nI rh), .ref md, .ref mh])), (mw, .inl (cI, 480, .inl (nA Bw))), (mr, .inl (cI, 6, .inl (nA Rs)))] sz) := by
  refine Met.ofW (cc := cX5_isLegal) (maxL := 2) (ret := (some .boolean)) (by decide) rfl ?_
  intro p e s m args below meth c s₁ B hml hv
  obtain ⟨rfl, hsz, hP, hKK, hD0⟩ := hv
  have hK := hKK.1
  have hx := B.exec
  have hb := B.bytes
  have hr := B.returns
  have hts := atoms_spec (ws := wsX5_isLegal) B.pre
  have hown : s.vm.findClass RX5 = some m.cls := findClass_of_methodNamed B.named
  have hlocks := B.notSynchronized
  subst hsz
  have hD := hD0.self (sz := s.heap.size)
  generalize hAe : va_A [(m0, .inr (5, [.ref mw, .int (bi im), .ref mt, .int (nI tl), .ref ml, .ref mz, .ref mi, .ref mr, .int (nI at0), .int (nI st0), .int (nI nu), .int (nI rm), .int (nI rh), .ref md, .ref mh])), (mw, .inl (cI, 480, .inl (nA Bw))), (mr, .inl (cI, 6, .inl (nA Rs)))] s.heap.size = A at hD ⊢
  have hA : ∀ q : Nat, s.heap.size ≤ q → A q := fun q h => by rw [← hAe]; exact Or.inr h
  have hS : va_S A s.heap s.heap [] := va_S.rf
  have hP : va_P (dC, dI) vwCl [(m0, .inr (5, [.ref mw, .int (bi im), .ref mt, .int (nI tl), .ref ml, .ref mz, .ref mi, .ref mr, .int (nI at0), .int (nI st0), .int (nI nu), .int (nI rm), .int (nI rh), .ref md, .ref mh])), (mw, .inl (cI, 480, .inl (nA Bw))), (mr, .inl (cI, 6, .inl (nA Rs)))] s.heap := hP
  have hl := lv_entry ([.ref m0, .int (nI r)]) (n := 2) (Nat.le_of_ble_eq_true rfl)
  rw [lg_entry_eq]
  generalize (lg_sl ([.ref m0, .int (nI r)]) ++ List.replicate (2 - (lg_sl ([.ref m0, .int (nI r)])).length) Slot.unset).toArray = ls at hl ⊢
  have hl : lv_has ls 2 [(0, .ref m0), (1, .int (nI r))] := hl
  refine lv_aload_n hx hb dX5_isLegal_0 rfl (lv_at hl 0 rfl) ?_
  refine lv_iload_n hx hb dX5_isLegal_1 rfl (lv_at hl 1 rfl) ?_
  refine rw_calli (va_runV (As := [.int (nI r)]) (rest := []) ⟨hx, hb, hml, hown, hts⟩ (c_X5_value l dC dI cI cJ cS _ m0 mw mt ml mz mi mr md mh im tl at0 st0 nu rm rh Bw Rs r (by first | assumption | omega) (by first | assumption | omega)) (cwV 1 hts gX5_isLegal_X5_value rfl rfl rfl (by decide +kernel) ⟨Nat.le_of_ble_eq_true rfl, Nat.le_of_ble_eq_true rfl⟩) (rw_preV hKK hP hD rfl rfl) rfl rfl hl.1 rfl (lv_room (Nat.le_of_ble_eq_true rfl)) dX5_isLegal_2 ⟨Nat.zero_le _, Nat.zero_le _⟩) (wr := []) hP hD hS hA [0, 1, 2] [] rfl rfl (by decide) (by decide) (fun H locs hP hD hS => ?_)
  have hP : va_P (dC, dI) vwCl [(m0, .inr (5, [.ref mw, .int (bi im), .ref mt, .int (nI tl), .ref ml, .ref mz, .ref mi, .ref mr, .int (nI at0), .int (nI st0), .int (nI nu), .int (nI rm), .int (nI rh), .ref md, .ref mh])), (mw, .inl (cI, 480, .inl (nA Bw))), (mr, .inl (cI, 6, .inl (nA (lkN Bw r 6 Rs))))] H := hP.sub [0, 1, 2] rfl
  have hD : va_D A [(m0, .inr (5, [.ref mw, .int (bi im), .ref mt, .int (nI tl), .ref ml, .ref mz, .ref mi, .ref mr, .int (nI at0), .int (nI st0), .int (nI nu), .int (nI rm), .int (nI rh), .ref md, .ref mh])), (mw, .inl (cI, 480, .inl (nA Bw))), (mr, .inl (cI, 6, .inl (nA (lkN Bw r 6 Rs))))] := hD.sub [0, 1, 2] (by decide) rfl
  refine lv_aload_n hx hb dX5_isLegal_5 rfl (lv_at hl 0 rfl) ?_
  refine rr_callR (va_runV (As := []) (rest := [.int (nI (VB Bw r))]) ⟨hx, hb, hml, hown, hts⟩ (c_X5_range l dC dI cI cJ cS m0 mw mt ml mz mi mr md mh im tl at0 st0 nu rm rh Bw (by first | assumption | omega)) (cwV 0 hts gX5_isLegal_X5_range rfl rfl rfl (by decide +kernel) ⟨Nat.le_of_ble_eq_true rfl, Nat.le_of_ble_eq_true rfl⟩) (rr_preV hKK (hP.sub [0, 1] rfl) rfl rfl) rfl rfl hl.1 rfl (lv_room (Nat.le_of_ble_eq_true rfl)) dX5_isLegal_6 ⟨Nat.zero_le _, Nat.zero_le _⟩) ?_
  have hb1 := VB_lt hm hr4
  have hb2 := spB_b hm
  have hb3 := rgB_b hm
  refine rn_icmp_ge (tgt := 16) hx hb dX5_isLegal_9 (by decide) (by omega) (by omega) (fun c9 => ?_) (fun c9 => ?_)
  · skip
    refine lv_iconst (v := (nI 0)) hx hb dX5_isLegal_16 (by decide) ?_
    refine rr_top (y := bi false) rfl ?_
    exact rr_zretW hx hb hr hlocks dX5_isLegal_17 hP hD hS (by first | (rw [decide_eq_true c9]; done) | (rw [decide_eq_false (Nat.not_lt.mpr c9)]))
  refine lv_iconst (v := (nI 1)) hx hb dX5_isLegal_12 (by decide) ?_
  refine lv_goto (tgt := 17) hx hb dX5_isLegal_13 (by decide) ?_
  refine rr_top (y := bi true) rfl ?_
  exact rr_zretW hx hb hr hlocks dX5_isLegal_17 hP hD hS (by first | (rw [decide_eq_true c9]; done) | (rw [decide_eq_false (Nat.not_lt.mpr c9)]))
set_option maxHeartbeats 4000000 in
set_option maxRecDepth 100000 in
theorem c_X5_wrongOf (l : Launch) (dC : Nat → ClassId) (dI : Nat → Nat → Nat) (cI cJ cS : ClassId) (m0 mw mt ml mz mi mr md mh : Nat) (im : Bool) (tl at0 st0 nu rm rh : Nat) (Bw : Nat → Nat) (k : Nat) (hm : mOk Bw) (hk2 : k < Bw 0) : Met l yX5_wrongOf wsX5_wrongOf ({ frames := 4, cells := 0, slots := 0, locals := 91 }) (va_Pc [.ref m0, .int (nI k)] (rB (dC, dI) vwCl [(m0, .inr (5, [.ref mw, .int (bi im), .ref mt, .int (nI tl), .ref ml, .ref mz, .ref mi, .ref mr, .int (nI at0), .int (nI st0), .int (nI nu), .int (nI rm), .int (nI rh), .ref md, .ref mh])), (mw, .inl (cI, 480, .inl (nA Bw)))] (tyz cI cJ cS))) (QcRead (nI (wrS (kdB Bw k) (wdB Bw k) (wdB Bw k)))) 0 0 (fun _ => False) := by
  refine Met.ofW (cc := cX5_wrongOf) (maxL := 6) (ret := (some .int)) (by decide) rfl ?_
  intro p e s m args below meth c s₁ B hml hv
  obtain ⟨rfl, hP, hKK⟩ := hv
  have hK := hKK.1
  have hx := B.exec
  have hb := B.bytes
  have hr := B.returns
  have hts := atoms_spec (ws := wsX5_wrongOf) B.pre
  have hown : s.vm.findClass RX5 = some m.cls := findClass_of_methodNamed B.named
  have hlocks := B.notSynchronized
  have hiX5 : ∀ w ∈ wsX50, w ∈ wsX5_wrongOf := by decide +kernel
  have hl := lv_entry ([.ref m0, .int (nI k)]) (n := 6) (Nat.le_of_ble_eq_true rfl)
  rw [lg_entry_eq]
  generalize (lg_sl ([.ref m0, .int (nI k)]) ++ List.replicate (6 - (lg_sl ([.ref m0, .int (nI k)])).length) Slot.unset).toArray = ls at hl ⊢
  have hl : lv_has ls 6 [(0, .ref m0), (1, .int (nI k))] := hl
  have hn6 := hm.n
  have hw2 := hm.wd k hk2
  refine lv_iconst (v := (nI 0)) hx hb dX5_wrongOf_0 (by decide) ?_
  refine lv_istore_n (lv' := [(2, .int (nI 0)), (0, .ref m0), (1, .int (nI k))]) hx hb dX5_wrongOf_1 rfl hl (by decide) rfl (fun ls hl => ?_)
  refine lv_aload_n hx hb dX5_wrongOf_2 rfl (lv_at hl 1 rfl) ?_
  refine va_get (D := (dC, dI)) (ci := 5) (v := .ref mw) (C := RX5) (T := TX5) (N := 15) hx hb hts hiX5 hown hK hP 0 rfl rfl 0 (by decide) (hts (.fieldLink RX5 7 "RestRegistersModel" "w" "[I") (by decide +kernel)) (fun _ h9 => h9) rfl dX5_wrongOf_3 ?_
  refine lv_bipush (v := (nI 8)) hx hb dX5_wrongOf_6 (by decide) ?_
  refine lv_iload_n hx hb dX5_wrongOf_8 rfl (lv_at hl 2 rfl) ?_
  refine rn_iadd hx hb dX5_wrongOf_9 ?_
  refine rn_iald hx hb hK hP 1 0 rfl rfl (i := 8 + k) (by omega) (by decide) (v := (nI (wdB Bw k))) rfl dX5_wrongOf_10 ?_
  have hv10 := hm.wd k (by omega)
  refine lv_istore_n (lv' := [(3, .int (nI (wdB Bw k))), (2, .int (nI 0)), (0, .ref m0), (1, .int (nI k))]) hx hb dX5_wrongOf_11 rfl hl (by decide) rfl (fun ls hl => ?_)
  refine lv_iconst (v := (nI 0)) hx hb dX5_wrongOf_12 (by decide) ?_
  refine lv_istore (lv' := [(4, .int (nI 0)), (3, .int (nI (wdB Bw k))), (2, .int (nI 0)), (0, .ref m0), (1, .int (nI k))]) hx hb dX5_wrongOf_13 hl (by decide) rfl (fun ls hl => ?_)
  refine rl1 (A1 := Nat) (fun ls => W p l e _ s m _ below meth c s.heap [] 0 0 _ (F0 m 15 ls [])) (fun a ls => a ≤ wdB Bw k ∧ lv_has ls 6 [(4, .int (nI a)), (3, .int (nI (wdB Bw k))), (2, .int (nI (wrS (kdB Bw k) (wdB Bw k) a))), (0, .ref m0), (1, .int (nI k))]) (fun a => wdB Bw k - a) ?_ 0 ls ⟨by omega, lv_sub hl [0, 1, 2, 3, 4] rfl⟩
  rintro a ls ⟨ha, hl⟩ ih15
  refine lv_iload hx hb dX5_wrongOf_15 (lv_at hl 0 rfl) ?_
  refine lv_iload_n hx hb dX5_wrongOf_17 rfl (lv_at hl 1 rfl) ?_
  refine rn_icmp_ge (tgt := 70) hx hb dX5_wrongOf_18 (by decide) (by omega) (by omega) (fun c18 => ?_) (fun c18 => ?_)
  · skip
    refine lv_iload_n hx hb dX5_wrongOf_70 rfl (lv_at hl 2 rfl) ?_
    exact rr_iret hx hb hr hlocks dX5_wrongOf_71 (by rw [Nat.le_antisymm ha c18])
  refine lv_iconst (v := (nI 0)) hx hb dX5_wrongOf_21 (by decide) ?_
  refine lv_istore (lv' := [(5, .int (nI 0)), (4, .int (nI a)), (3, .int (nI (wdB Bw k))), (2, .int (nI (wrS (kdB Bw k) (wdB Bw k) a))), (0, .ref m0), (1, .int (nI k))]) hx hb dX5_wrongOf_22 hl (by decide) rfl (fun ls hl => ?_)
  refine rl1 (A1 := Nat) (fun ls => W p l e _ s m _ below meth c s.heap [] 0 0 _ (F0 m 24 ls [])) (fun b ls => b ≤ wdB Bw k ∧ lv_has ls 6 [(5, .int (nI b)), (4, .int (nI a)), (3, .int (nI (wdB Bw k))), (2, .int (nI (wrS (kdB Bw k) (wdB Bw k) a + wrR (kdB Bw k) (wdB Bw k) a b))), (0, .ref m0), (1, .int (nI k))]) (fun b => wdB Bw k - b) ?_ 0 ls ⟨by omega, lv_sub hl [0, 1, 2, 3, 4, 5] rfl⟩
  rintro b ls ⟨hb3, hl⟩ ih24
  refine lv_iload hx hb dX5_wrongOf_24 (lv_at hl 0 rfl) ?_
  refine lv_iload_n hx hb dX5_wrongOf_26 rfl (lv_at hl 2 rfl) ?_
  refine rn_icmp_ge (tgt := 64) hx hb dX5_wrongOf_27 (by decide) (by omega) (by omega) (fun c27 => ?_) (fun c27 => ?_)
  · skip
    have eb : b = wdB Bw k := Nat.le_antisymm hb3 c27
    subst eb
    refine lv_iinc (v := (nI (a + 1))) (lv' := [(4, .int (nI (a + 1))), (5, .int (nI (wdB Bw k))), (3, .int (nI (wdB Bw k))), (2, .int (nI (wrS (kdB Bw k) (wdB Bw k) (a + 1)))), (0, .ref m0), (1, .int (nI k))]) hx hb dX5_wrongOf_64 hl (k := 1) rfl (rn_inc a 1) (by decide) rfl (fun ls hl => ?_)
    refine lv_goto (tgt := 15) hx hb dX5_wrongOf_67 (by decide) ?_
    exact ih15 (a + 1) ls ⟨by omega, lv_sub hl [0, 2, 3, 4, 5] rfl⟩ (by omega)
  refine lv_iload_n hx hb dX5_wrongOf_30 rfl (lv_at hl 3 rfl) ?_
  refine lv_aload_n hx hb dX5_wrongOf_31 rfl (lv_at hl 4 rfl) ?_
  refine lv_iload_n hx hb dX5_wrongOf_32 rfl (lv_at hl 5 rfl) ?_
  refine lv_iload hx hb dX5_wrongOf_33 (lv_at hl 1 rfl) ?_
  refine lv_iload hx hb dX5_wrongOf_35 (lv_at hl 0 rfl) ?_
  refine rr_callR (va_runV (As := [.int (nI k), .int (nI a), .int (nI b)]) (rest := [.int (nI (wrS (kdB Bw k) (wdB Bw k) a + wrR (kdB Bw k) (wdB Bw k) a b))]) ⟨hx, hb, hml, hown, hts⟩ (c_X5_added l dC dI cI cJ cS m0 mw mt ml mz mi mr md mh im tl at0 st0 nu rm rh Bw k a b (kdB Bw k) (wdB Bw k) (rfl) (rfl) (hm.kd k hk2) (hw2.1) (hw2.2) (by first | assumption | omega) (by first | assumption | omega) (by first | assumption | omega)) (cwV 3 hts gX5_wrongOf_X5_added rfl rfl rfl (by decide +kernel) ⟨Nat.le_of_ble_eq_true rfl, Nat.le_of_ble_eq_true rfl⟩) (rr_preV hKK hP rfl rfl) rfl rfl hl.1 rfl (lv_room (Nat.le_of_ble_eq_true rfl)) dX5_wrongOf_37 ⟨Nat.zero_le _, Nat.zero_le _⟩) ?_
  refine lv_iload_n hx hb dX5_wrongOf_40 rfl (lv_at hl 2 rfl) ?_
  refine lv_iload hx hb dX5_wrongOf_41 (lv_at hl 1 rfl) ?_
  refine lv_iload hx hb dX5_wrongOf_43 (lv_at hl 0 rfl) ?_
  refine rr_callR (va_runS (As := [.int (nI (wdB Bw k)), .int (nI a), .int (nI b)]) (rest := [.int (nI (addK (kdB Bw k) (wdB Bw k) a b)), .int (nI (wrS (kdB Bw k) (wdB Bw k) a + wrR (kdB Bw k) (wdB Bw k) a b))]) ⟨hx, hb, hml, hown, hts⟩ (c_X5_plain l (wdB Bw k) a b (by first | assumption | omega) (by first | assumption | omega) (by first | assumption | omega) (by first | assumption | omega)) (va_cwS 3 hts gX5_wrongOf_X5_plain rfl rfl rfl (by decide +kernel) ⟨Nat.le_of_ble_eq_true rfl, Nat.le_of_ble_eq_true rfl⟩) rr_preT rfl rfl hl.1 rfl (lv_room (Nat.le_of_ble_eq_true rfl)) dX5_wrongOf_45 ⟨Nat.zero_le _, Nat.zero_le _⟩) ?_
  have hal := addK_lt (kdB Bw k) c18 c27
  have hpl := plainA_lt a b (show 0 < wdB Bw k by omega)
  refine rn_icmp_ne (tgt := 55) hx hb dX5_wrongOf_48 (by decide) (by omega) (by omega) (fun c48 => ?_) (fun c48 => ?_)
  · skip
    refine lv_iconst (v := (nI 1)) hx hb dX5_wrongOf_55 (by decide) ?_
    refine rn_iadd hx hb dX5_wrongOf_56 ?_
    refine rn_top (y := wrS (kdB Bw k) (wdB Bw k) a + wrR (kdB Bw k) (wdB Bw k) a (b + 1)) (by rw [wrR, Nat.add_assoc]; first | (rw [if_pos (show wrongB (kdB Bw k) (wdB Bw k) a b = true from decide_eq_true c48)]; done) | (rw [if_neg (show ¬ wrongB (kdB Bw k) (wdB Bw k) a b = true from fun q => of_decide_eq_true q c48)])) ?_
    refine lv_istore_n (lv' := [(2, .int (nI (wrS (kdB Bw k) (wdB Bw k) a + wrR (kdB Bw k) (wdB Bw k) a (b + 1)))), (5, .int (nI b)), (4, .int (nI a)), (3, .int (nI (wdB Bw k))), (0, .ref m0), (1, .int (nI k))]) hx hb dX5_wrongOf_57 rfl hl (by decide) rfl (fun ls hl => ?_)
    refine lv_iinc (v := (nI (b + 1))) (lv' := [(5, .int (nI (b + 1))), (2, .int (nI (wrS (kdB Bw k) (wdB Bw k) a + wrR (kdB Bw k) (wdB Bw k) a (b + 1)))), (4, .int (nI a)), (3, .int (nI (wdB Bw k))), (0, .ref m0), (1, .int (nI k))]) hx hb dX5_wrongOf_58 hl (k := 1) rfl (rn_inc b 1) (by decide) rfl (fun ls hl => ?_)
    refine lv_goto (tgt := 24) hx hb dX5_wrongOf_61 (by decide) ?_
    exact ih24 (b + 1) ls ⟨by omega, lv_sub hl [0, 2, 3, 1, 4, 5] rfl⟩ (by omega)
  refine lv_iconst (v := (nI 0)) hx hb dX5_wrongOf_51 (by decide) ?_
  refine lv_goto (tgt := 56) hx hb dX5_wrongOf_52 (by decide) ?_
  refine rn_iadd hx hb dX5_wrongOf_56 ?_
  refine rn_top (y := wrS (kdB Bw k) (wdB Bw k) a + wrR (kdB Bw k) (wdB Bw k) a (b + 1)) (by rw [wrR, Nat.add_assoc]; first | (rw [if_pos (show wrongB (kdB Bw k) (wdB Bw k) a b = true from decide_eq_true c48)]; done) | (rw [if_neg (show ¬ wrongB (kdB Bw k) (wdB Bw k) a b = true from fun q => of_decide_eq_true q c48)])) ?_
  refine lv_istore_n (lv' := [(2, .int (nI (wrS (kdB Bw k) (wdB Bw k) a + wrR (kdB Bw k) (wdB Bw k) a (b + 1)))), (5, .int (nI b)), (4, .int (nI a)), (3, .int (nI (wdB Bw k))), (0, .ref m0), (1, .int (nI k))]) hx hb dX5_wrongOf_57 rfl hl (by decide) rfl (fun ls hl => ?_)
  refine lv_iinc (v := (nI (b + 1))) (lv' := [(5, .int (nI (b + 1))), (2, .int (nI (wrS (kdB Bw k) (wdB Bw k) a + wrR (kdB Bw k) (wdB Bw k) a (b + 1)))), (4, .int (nI a)), (3, .int (nI (wdB Bw k))), (0, .ref m0), (1, .int (nI k))]) hx hb dX5_wrongOf_58 hl (k := 1) rfl (rn_inc b 1) (by decide) rfl (fun ls hl => ?_)
  refine lv_goto (tgt := 24) hx hb dX5_wrongOf_61 (by decide) ?_
  exact ih24 (b + 1) ls ⟨by omega, lv_sub hl [0, 2, 3, 1, 4, 5] rfl⟩ (by omega)
set_option maxHeartbeats 4000000 in
set_option maxRecDepth 100000 in
theorem c_X5_plains (l : Launch) (dC : Nat → ClassId) (dI : Nat → Nat → Nat) (cI cJ cS : ClassId) (m0 mw mt ml mz mi mr md mh : Nat) (im : Bool) (tl at0 st0 nu rm rh : Nat) (Bw : Nat → Nat) (hm : mOk Bw) : Met l yX5_plains wsX5_plains ({ frames := 0, cells := 0, slots := 0, locals := 0 }) (va_Pc [.ref m0] (rB (dC, dI) vwCl [(m0, .inr (5, [.ref mw, .int (bi im), .ref mt, .int (nI tl), .ref ml, .ref mz, .ref mi, .ref mr, .int (nI at0), .int (nI st0), .int (nI nu), .int (nI rm), .int (nI rh), .ref md, .ref mh])), (mw, .inl (cI, 480, .inl (nA Bw)))] (tyz cI cJ cS))) (QcRead (nI (orS (fun j => decide (kdB Bw j = 0)) (Bw 0)))) 0 0 (fun _ => False) := by
  refine Met.ofW (cc := cX5_plains) (maxL := 3) (ret := (some .int)) (by decide) rfl ?_
  intro p e s m args below meth c s₁ B hml hv
  obtain ⟨rfl, hP, hKK⟩ := hv
  have hK := hKK.1
  have hx := B.exec
  have hb := B.bytes
  have hr := B.returns
  have hts := atoms_spec (ws := wsX5_plains) B.pre
  have hown : s.vm.findClass RX5 = some m.cls := findClass_of_methodNamed B.named
  have hlocks := B.notSynchronized
  have hiX5 : ∀ w ∈ wsX50, w ∈ wsX5_plains := by decide +kernel
  have hl := lv_entry ([.ref m0]) (n := 3) (Nat.le_of_ble_eq_true rfl)
  rw [lg_entry_eq]
  generalize (lg_sl ([.ref m0]) ++ List.replicate (3 - (lg_sl ([.ref m0])).length) Slot.unset).toArray = ls at hl ⊢
  have hl : lv_has ls 3 [(0, .ref m0)] := hl
  have hn6 := hm.n
  refine lv_iconst (v := (nI 0)) hx hb dX5_plains_0 (by decide) ?_
  refine lv_istore_n (lv' := [(1, .int (nI 0)), (0, .ref m0)]) hx hb dX5_plains_1 rfl hl (by decide) rfl (fun ls hl => ?_)
  refine lv_iconst (v := (nI 0)) hx hb dX5_plains_2 (by decide) ?_
  refine lv_istore_n (lv' := [(2, .int (nI 0)), (1, .int (nI 0)), (0, .ref m0)]) hx hb dX5_plains_3 rfl hl (by decide) rfl (fun ls hl => ?_)
  refine rl1 (A1 := Nat) (fun ls => W p l e _ s m _ below meth c s.heap [] 0 0 _ (F0 m 4 ls [])) (fun k ls => k ≤ Bw 0 ∧ lv_has ls 3 [(2, .int (nI k)), (1, .int (nI (orS (fun j => decide (kdB Bw j = 0)) k))), (0, .ref m0)]) (fun k => Bw 0 - k) ?_ 0 ls ⟨by omega, lv_sub hl [0, 1, 2] rfl⟩
  rintro k ls ⟨hi, hl⟩ ih4
  refine lv_iload_n hx hb dX5_plains_4 rfl (lv_at hl 0 rfl) ?_
  refine lv_aload_n hx hb dX5_plains_5 rfl (lv_at hl 2 rfl) ?_
  refine va_get (D := (dC, dI)) (ci := 5) (v := .ref mw) (C := RX5) (T := TX5) (N := 15) hx hb hts hiX5 hown hK hP 0 rfl rfl 0 (by decide) (hts (.fieldLink RX5 7 "RestRegistersModel" "w" "[I") (by decide +kernel)) (fun _ h9 => h9) rfl dX5_plains_6 ?_
  refine lv_iconst (v := (nI 0)) hx hb dX5_plains_9 (by decide) ?_
  refine rn_iald hx hb hK hP 1 0 rfl rfl (i := 0) (by omega) (by decide) (v := (nI (Bw 0))) rfl dX5_plains_10 ?_
  refine rn_icmp_ge (tgt := 41) hx hb dX5_plains_11 (by decide) (by omega) (by omega) (fun c11 => ?_) (fun c11 => ?_)
  · skip
    refine lv_iload_n hx hb dX5_plains_41 rfl (lv_at hl 1 rfl) ?_
    exact rr_iret hx hb hr hlocks dX5_plains_42 (by rw [Nat.le_antisymm hi c11])
  refine lv_iload_n hx hb dX5_plains_14 rfl (lv_at hl 1 rfl) ?_
  refine lv_aload_n hx hb dX5_plains_15 rfl (lv_at hl 2 rfl) ?_
  refine va_get (D := (dC, dI)) (ci := 5) (v := .ref mw) (C := RX5) (T := TX5) (N := 15) hx hb hts hiX5 hown hK hP 0 rfl rfl 0 (by decide) (hts (.fieldLink RX5 7 "RestRegistersModel" "w" "[I") (by decide +kernel)) (fun _ h9 => h9) rfl dX5_plains_16 ?_
  refine lv_iconst (v := (nI 2)) hx hb dX5_plains_19 (by decide) ?_
  refine lv_iload_n hx hb dX5_plains_20 rfl (lv_at hl 0 rfl) ?_
  refine rn_iadd hx hb dX5_plains_21 ?_
  refine rn_iald hx hb hK hP 1 0 rfl rfl (i := 2 + k) (by omega) (by decide) (v := (nI (kdB Bw k))) rfl dX5_plains_22 ?_
  have hv22 := hm.kd k (by omega)
  refine rn_if_ne (tgt := 32) hx hb dX5_plains_23 (by decide) (by omega) (fun c23 => ?_) (fun c23 => ?_)
  · skip
    refine lv_iconst (v := (nI 0)) hx hb dX5_plains_32 (by decide) ?_
    refine lv_ior hx hb dX5_plains_33 ?_
    refine rr_top (y := (nI (orS (fun j => decide (kdB Bw j = 0)) (k + 1)))) (by rw [or_eq, orS]; first | (rw [if_pos (decide_eq_true c23)]; done) | rw [if_neg (fun q => c23 (of_decide_eq_true q))]) ?_
    refine lv_istore_n (lv' := [(1, .int (nI (orS (fun j => decide (kdB Bw j = 0)) (k + 1)))), (2, .int (nI k)), (0, .ref m0)]) hx hb dX5_plains_34 rfl hl (by decide) rfl (fun ls hl => ?_)
    refine lv_iinc (v := (nI (k + 1))) (lv' := [(2, .int (nI (k + 1))), (1, .int (nI (orS (fun j => decide (kdB Bw j = 0)) (k + 1)))), (0, .ref m0)]) hx hb dX5_plains_35 hl (k := 1) rfl (rn_inc k 1) (by decide) rfl (fun ls hl => ?_)
    refine lv_goto (tgt := 4) hx hb dX5_plains_38 (by decide) ?_
    exact ih4 (k + 1) ls ⟨by omega, lv_sub hl [0, 1, 2] rfl⟩ (by omega)
  refine lv_iconst (v := (nI 1)) hx hb dX5_plains_26 (by decide) ?_
  refine lv_iload_n hx hb dX5_plains_27 rfl (lv_at hl 0 rfl) ?_
  refine lv_ishl hx hb dX5_plains_28 ?_
  refine lv_goto (tgt := 33) hx hb dX5_plains_29 (by decide) ?_
  refine rr_top (y := nI (2 ^ k)) (shl_eq (by omega)) ?_
  refine lv_ior hx hb dX5_plains_33 ?_
  refine rr_top (y := (nI (orS (fun j => decide (kdB Bw j = 0)) (k + 1)))) (by rw [or_eq, orS]; first | (rw [if_pos (decide_eq_true c23)]; done) | rw [if_neg (fun q => c23 (of_decide_eq_true q))]) ?_
  refine lv_istore_n (lv' := [(1, .int (nI (orS (fun j => decide (kdB Bw j = 0)) (k + 1)))), (2, .int (nI k)), (0, .ref m0)]) hx hb dX5_plains_34 rfl hl (by decide) rfl (fun ls hl => ?_)
  refine lv_iinc (v := (nI (k + 1))) (lv' := [(2, .int (nI (k + 1))), (1, .int (nI (orS (fun j => decide (kdB Bw j = 0)) (k + 1)))), (0, .ref m0)]) hx hb dX5_plains_35 hl (k := 1) rfl (rn_inc k 1) (by decide) rfl (fun ls hl => ?_)
  refine lv_goto (tgt := 4) hx hb dX5_plains_38 (by decide) ?_
  exact ih4 (k + 1) ls ⟨by omega, lv_sub hl [0, 1, 2] rfl⟩ (by omega)
set_option maxHeartbeats 4000000 in
set_option maxRecDepth 100000 in
theorem c_X5_legals (l : Launch) (dC : Nat → ClassId) (dI : Nat → Nat → Nat) (cI cJ cS : ClassId) (sz : Nat) (m0 mw mt ml mz mi mr md mh : Nat) (im : Bool) (tl at0 st0 nu rm rh : Nat) (Bw Rs : Nat → Nat) (hm : mOk Bw) : Met l yX5_legals wsX5_legals ({ frames := 3, cells := 0, slots := 0, locals := 65 }) (va_Pc [.ref m0] (rW (dC, dI) vwCl [(m0, .inr (5, [.ref mw, .int (bi im), .ref mt, .int (nI tl), .ref ml, .ref mz, .ref mi, .ref mr, .int (nI at0), .int (nI st0), .int (nI nu), .int (nI rm), .int (nI rh), .ref md, .ref mh])), (mw, .inl (cI, 480, .inl (nA Bw))), (mr, .inl (cI, 6, .inl (nA Rs)))] (tyz cI cJ cS) sz)) (qI (nI (orS (fun r => decide (VB Bw r < rgB Bw)) 4)) (dC, dI) vwCl [(m0, .inr (5, [.ref mw, .int (bi im), .ref mt, .int (nI tl), .ref ml, .ref mz, .ref mi, .ref mr, .int (nI at0), .int (nI st0), .int (nI nu), .int (nI rm), .int (nI rh), .ref md, .ref mh])), (mw, .inl (cI, 480, .inl (nA Bw))), (mr, .inl (cI, 6, .inl (nA (lkN Bw 3 6 (lkN Bw 2 6 (lkN Bw 1 6 (lkN Bw 0 6 Rs)))))))] (va_A [(m0, .inr (5, [.ref mw, .int (bi im), .ref mt, .int (nI tl), .ref ml, .ref mz, .ref mi, .ref mr, .int (nI at0), .int (nI st0), .int (nI nu), .int (nI rm), .int (nI rh), .ref md, .ref mh])), (mw, .inl (cI, 480, .inl (nA Bw))), (mr, .inl (cI, 6, .inl (nA Rs)))] sz)) 0 0 (va_A [(m0, .inr (5, [.ref mw, .int (bi im), .ref mt, .int (nI tl), .ref ml, .ref mz, .ref mi, .ref mr, .int (nI at0), .int (nI st0), .int (nI nu), .int (nI rm), .int (nI rh), .ref md, .ref mh])), (mw, .inl (cI, 480, .inl (nA Bw))), (mr, .inl (cI, 6, .inl (nA Rs)))] sz) := by
  refine Met.ofW (cc := cX5_legals) (maxL := 3) (ret := (some .int)) (by decide) rfl ?_
  intro p e s m args below meth c s₁ B hml hv
  obtain ⟨rfl, hsz, hP, hKK, hD0⟩ := hv
  have hK := hKK.1
  have hx := B.exec
  have hb := B.bytes
  have hr := B.returns
  have hts := atoms_spec (ws := wsX5_legals) B.pre
  have hown : s.vm.findClass RX5 = some m.cls := findClass_of_methodNamed B.named
  have hlocks := B.notSynchronized
  subst hsz
  have hD := hD0.self (sz := s.heap.size)
  generalize hAe : va_A [(m0, .inr (5, [.ref mw, .int (bi im), .ref mt, .int (nI tl), .ref ml, .ref mz, .ref mi, .ref mr, .int (nI at0), .int (nI st0), .int (nI nu), .int (nI rm), .int (nI rh), .ref md, .ref mh])), (mw, .inl (cI, 480, .inl (nA Bw))), (mr, .inl (cI, 6, .inl (nA Rs)))] s.heap.size = A at hD ⊢
  have hA : ∀ q : Nat, s.heap.size ≤ q → A q := fun q h => by rw [← hAe]; exact Or.inr h
  have hS : va_S A s.heap s.heap [] := va_S.rf
  have hP : va_P (dC, dI) vwCl [(m0, .inr (5, [.ref mw, .int (bi im), .ref mt, .int (nI tl), .ref ml, .ref mz, .ref mi, .ref mr, .int (nI at0), .int (nI st0), .int (nI nu), .int (nI rm), .int (nI rh), .ref md, .ref mh])), (mw, .inl (cI, 480, .inl (nA Bw))), (mr, .inl (cI, 6, .inl (nA Rs)))] s.heap := hP
  have hl := lv_entry ([.ref m0]) (n := 3) (Nat.le_of_ble_eq_true rfl)
  rw [lg_entry_eq]
  generalize (lg_sl ([.ref m0]) ++ List.replicate (3 - (lg_sl ([.ref m0])).length) Slot.unset).toArray = ls at hl ⊢
  have hl : lv_has ls 3 [(0, .ref m0)] := hl
  refine lv_iconst (v := (nI 0)) hx hb dX5_legals_0 (by decide) ?_
  refine lv_istore_n (lv' := [(1, .int (nI 0)), (0, .ref m0)]) hx hb dX5_legals_1 rfl hl (by decide) rfl (fun ls hl => ?_)
  refine lv_iconst (v := (nI 0)) hx hb dX5_legals_2 (by decide) ?_
  refine lv_istore_n (lv' := [(2, .int (nI 0)), (1, .int (nI 0)), (0, .ref m0)]) hx hb dX5_legals_3 rfl hl (by decide) rfl (fun ls hl => ?_)
  refine rlW2 (A1 := Nat) (A2 := Nat → Nat) (fun H locs ls => W p l e _ s m _ below meth c H locs 0 0 _ (F0 m 4 ls [])) (fun r Rq H locs ls => r ≤ 4 ∧ lk4 Bw r Rs = Rq ∧ va_P (dC, dI) vwCl [(m0, .inr (5, [.ref mw, .int (bi im), .ref mt, .int (nI tl), .ref ml, .ref mz, .ref mi, .ref mr, .int (nI at0), .int (nI st0), .int (nI nu), .int (nI rm), .int (nI rh), .ref md, .ref mh])), (mw, .inl (cI, 480, .inl (nA Bw))), (mr, .inl (cI, 6, .inl (nA Rq)))] H ∧ va_D A [(m0, .inr (5, [.ref mw, .int (bi im), .ref mt, .int (nI tl), .ref ml, .ref mz, .ref mi, .ref mr, .int (nI at0), .int (nI st0), .int (nI nu), .int (nI rm), .int (nI rh), .ref md, .ref mh])), (mw, .inl (cI, 480, .inl (nA Bw))), (mr, .inl (cI, 6, .inl (nA Rq)))] ∧ va_S A s.heap H locs ∧ lv_has ls 3 [(2, .int (nI r)), (1, .int (nI (orS (fun r => decide (VB Bw r < rgB Bw)) r))), (0, .ref m0)]) (fun r Rq => 4 - r) ?_ 0 Rs _ _ ls ⟨by omega, rfl, hP, hD, hS, lv_sub hl [0, 1, 2] rfl⟩
  rintro r Rq H locs ls ⟨hi, hq, hP, hD, hS, hl⟩ ih4
  refine lv_iload_n hx hb dX5_legals_4 rfl (lv_at hl 0 rfl) ?_
  refine lv_iconst (v := (nI 4)) hx hb dX5_legals_5 (by decide) ?_
  refine rn_icmp_ge (tgt := 33) hx hb dX5_legals_6 (by decide) (by omega) (by omega) (fun c6 => ?_) (fun c6 => ?_)
  · skip
    have er : r = 4 := Nat.le_antisymm hi c6
    subst er
    subst hq
    refine lv_iload_n hx hb dX5_legals_33 rfl (lv_at hl 1 rfl) ?_
    exact rr_iretW hx hb hr hlocks dX5_legals_34 hP hD hS (rfl)
  refine lv_iload_n hx hb dX5_legals_9 rfl (lv_at hl 1 rfl) ?_
  refine lv_aload_n hx hb dX5_legals_10 rfl (lv_at hl 2 rfl) ?_
  refine lv_iload_n hx hb dX5_legals_11 rfl (lv_at hl 0 rfl) ?_
  refine rw_calli (va_runV (As := [.int (nI r)]) (rest := [.int (nI (orS (fun r => decide (VB Bw r < rgB Bw)) r))]) ⟨hx, hb, hml, hown, hts⟩ (c_X5_isLegal l dC dI cI cJ cS _ m0 mw mt ml mz mi mr md mh im tl at0 st0 nu rm rh Bw Rq r (by first | assumption | omega) (by first | assumption | omega)) (cwV 1 hts gX5_legals_X5_isLegal rfl rfl rfl (by decide +kernel) ⟨Nat.le_of_ble_eq_true rfl, Nat.le_of_ble_eq_true rfl⟩) (rw_preV hKK hP hD rfl rfl) rfl rfl hl.1 rfl (lv_room (Nat.le_of_ble_eq_true rfl)) dX5_legals_12 ⟨Nat.zero_le _, Nat.zero_le _⟩) (wr := []) hP hD hS hA [0, 1, 2] [] rfl rfl (by decide) (by decide) (fun H locs hP hD hS => ?_)
  have hP : va_P (dC, dI) vwCl [(m0, .inr (5, [.ref mw, .int (bi im), .ref mt, .int (nI tl), .ref ml, .ref mz, .ref mi, .ref mr, .int (nI at0), .int (nI st0), .int (nI nu), .int (nI rm), .int (nI rh), .ref md, .ref mh])), (mw, .inl (cI, 480, .inl (nA Bw))), (mr, .inl (cI, 6, .inl (nA (lkN Bw r 6 Rq))))] H := hP.sub [0, 1, 2] rfl
  have hD : va_D A [(m0, .inr (5, [.ref mw, .int (bi im), .ref mt, .int (nI tl), .ref ml, .ref mz, .ref mi, .ref mr, .int (nI at0), .int (nI st0), .int (nI nu), .int (nI rm), .int (nI rh), .ref md, .ref mh])), (mw, .inl (cI, 480, .inl (nA Bw))), (mr, .inl (cI, 6, .inl (nA (lkN Bw r 6 Rq))))] := hD.sub [0, 1, 2] (by decide) rfl
  refine rb_if_eq (tgt := 24) hx hb dX5_legals_15 (by decide) (fun c15 => ?_) (fun c15 => ?_)
  · skip
    refine lv_iconst (v := (nI 0)) hx hb dX5_legals_24 (by decide) ?_
    refine lv_ior hx hb dX5_legals_25 ?_
    refine rr_top (y := (nI (orS (fun r => decide (VB Bw r < rgB Bw)) (r + 1)))) (by rw [or_eq, orS, c15]; rfl) ?_
    refine lv_istore_n (lv' := [(1, .int (nI (orS (fun r => decide (VB Bw r < rgB Bw)) (r + 1)))), (2, .int (nI r)), (0, .ref m0)]) hx hb dX5_legals_26 rfl hl (by decide) rfl (fun ls hl => ?_)
    refine lv_iinc (v := (nI (r + 1))) (lv' := [(2, .int (nI (r + 1))), (1, .int (nI (orS (fun r => decide (VB Bw r < rgB Bw)) (r + 1)))), (0, .ref m0)]) hx hb dX5_legals_27 hl (k := 1) rfl (rn_inc r 1) (by decide) rfl (fun ls hl => ?_)
    refine lv_goto (tgt := 4) hx hb dX5_legals_30 (by decide) ?_
    exact ih4 (r + 1) (lkN Bw r 6 Rq) _ _ ls ⟨by omega, by rw [← hq]; rfl, hP, hD, hS, lv_sub hl [0, 1, 2] rfl⟩ (by omega)
  refine lv_iconst (v := (nI 1)) hx hb dX5_legals_18 (by decide) ?_
  refine lv_iload_n hx hb dX5_legals_19 rfl (lv_at hl 0 rfl) ?_
  refine lv_ishl hx hb dX5_legals_20 ?_
  refine lv_goto (tgt := 25) hx hb dX5_legals_21 (by decide) ?_
  refine rr_top (y := nI (2 ^ r)) (shl_eq (by omega)) ?_
  refine lv_ior hx hb dX5_legals_25 ?_
  refine rr_top (y := (nI (orS (fun r => decide (VB Bw r < rgB Bw)) (r + 1)))) (by rw [or_eq, orS, c15]; rfl) ?_
  refine lv_istore_n (lv' := [(1, .int (nI (orS (fun r => decide (VB Bw r < rgB Bw)) (r + 1)))), (2, .int (nI r)), (0, .ref m0)]) hx hb dX5_legals_26 rfl hl (by decide) rfl (fun ls hl => ?_)
  refine lv_iinc (v := (nI (r + 1))) (lv' := [(2, .int (nI (r + 1))), (1, .int (nI (orS (fun r => decide (VB Bw r < rgB Bw)) (r + 1)))), (0, .ref m0)]) hx hb dX5_legals_27 hl (k := 1) rfl (rn_inc r 1) (by decide) rfl (fun ls hl => ?_)
  refine lv_goto (tgt := 4) hx hb dX5_legals_30 (by decide) ?_
  exact ih4 (r + 1) (lkN Bw r 6 Rq) _ _ ls ⟨by omega, by rw [← hq]; rfl, hP, hD, hS, lv_sub hl [0, 1, 2] rfl⟩ (by omega)
