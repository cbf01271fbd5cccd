set_option maxHeartbeats 4000000 in
set_option maxRecDepth 100000 in
theorem c_X5_sum_g (l : Launch) (dC : Nat → ClassId) (dI : Nat → Nat → Nat) (cI cJ cS : ClassId) (m0 mw mt ml mz mi mr md mh : Nat) (im : Bool) (tl at0 st0 nu rm rh : Nat) (Bw : Nat → Nat) (r o t k : Nat) (hm : mOk Bw) (hr4 : r < 4) (ho4 : o < 4) (ht2 : t ≤ 1000) (hk2 : k < Bw 0) : Met l yX5_sum wsX5_sum ({ frames := 4, cells := 0, slots := 0, locals := 91 }) (va_Pc [.ref m0, .int (nI r), .int (nI o), .int (nI t), .int (nI k)] (rB (dC, dI) vwCl [(m0, .inr (5, [.ref mw, .int (bi im), .ref mt, .int (nI tl), .ref ml, .ref mz, .ref mi, .ref mr, .int (nI at0), .int (nI st0), .int (nI nu), .int (nI rm), .int (nI rh), .ref md, .ref mh])), (mw, .inl (cI, 480, .inl (nA Bw)))] (tyz cI cJ cS))) (QcRead (nI (addO (kdB Bw k) (wdB Bw k) (rsB Bw (r * 6 + k)) (rsB Bw (o * 6 + k)) t))) 0 0 (fun _ => False) := by
  refine Met.ofW (cc := cX5_sum) (maxL := 7) (ret := (some .int)) (by decide) rfl ?_
  intro p e s m args below meth c s₁ B hml hv
  obtain ⟨rfl, hP, hKK⟩ := hv
  have hK := hKK.1
  have hx := B.exec
  have hb := B.bytes
  have hr := B.returns
  have hts := atoms_spec (ws := wsX5_sum) B.pre
  have hown : s.vm.findClass RX5 = some m.cls := findClass_of_methodNamed B.named
  have hlocks := B.notSynchronized
  have hiX5 : ∀ w ∈ wsX50, w ∈ wsX5_sum := by decide +kernel
  have hl := lv_entry ([.ref m0, .int (nI r), .int (nI o), .int (nI t), .int (nI k)]) (n := 7) (Nat.le_of_ble_eq_true rfl)
  rw [lg_entry_eq]
  generalize (lg_sl ([.ref m0, .int (nI r), .int (nI o), .int (nI t), .int (nI k)]) ++ List.replicate (7 - (lg_sl ([.ref m0, .int (nI r), .int (nI o), .int (nI t), .int (nI k)])).length) Slot.unset).toArray = ls at hl ⊢
  have hl : lv_has ls 7 [(0, .ref m0), (1, .int (nI r)), (2, .int (nI o)), (3, .int (nI t)), (4, .int (nI k))] := hl
  have hn6 := hm.n
  have hra := hm.row hr4 k hk2
  have hrb := hm.row ho4 k hk2
  refine lv_iload_n hx hb dX5_sum_0 rfl (lv_at hl 1 rfl) ?_
  refine rr_callR (va_runS (As := [.int (nI r)]) (rest := []) ⟨hx, hb, hml, hown, hts⟩ (c_X5_isRegister l (nI r) ) (va_cwS 1 hts gX5_sum_X5_isRegister rfl rfl rfl (by decide +kernel) ⟨Nat.le_of_ble_eq_true rfl, Nat.le_of_ble_eq_true rfl⟩) rr_preT rfl rfl hl.1 rfl (lv_room (Nat.le_of_ble_eq_true rfl)) dX5_sum_1 ⟨Nat.zero_le _, Nat.zero_le _⟩) ?_
  refine rr_top (y := bi true) (congrArg bi (inb_lt (by omega) (by omega))) ?_
  refine rb_if_eq (tgt := 35) hx hb dX5_sum_4 (by decide) (fun c4 => ?_) (fun c4 => ?_)
  · exact absurd c4 (by decide)
  refine lv_iload_n hx hb dX5_sum_7 rfl (lv_at hl 2 rfl) ?_
  refine rr_callR (va_runS (As := [.int (nI o)]) (rest := []) ⟨hx, hb, hml, hown, hts⟩ (c_X5_isRegister l (nI o) ) (va_cwS 1 hts gX5_sum_X5_isRegister rfl rfl rfl (by decide +kernel) ⟨Nat.le_of_ble_eq_true rfl, Nat.le_of_ble_eq_true rfl⟩) rr_preT rfl rfl hl.1 rfl (lv_room (Nat.le_of_ble_eq_true rfl)) dX5_sum_8 ⟨Nat.zero_le _, Nat.zero_le _⟩) ?_
  refine rr_top (y := bi true) (congrArg bi (inb_lt (by omega) (by omega))) ?_
  refine rb_if_eq (tgt := 35) hx hb dX5_sum_11 (by decide) (fun c11 => ?_) (fun c11 => ?_)
  · exact absurd c11 (by decide)
  refine lv_iload_n hx hb dX5_sum_14 rfl (lv_at hl 3 rfl) ?_
  refine lv_i2l hx hb dX5_sum_15 rfl ?_
  refine lv_lconst (v := 0) hx hb dX5_sum_16 (by decide) ?_
  refine lv_ldc2 (v := 1000) hx hb hown (hts (.constantLong RX5 171 (1000)) (by decide +kernel)) dX5_sum_17 ?_
  refine rr_callR (va_runS (As := [.long ((nI t).toInt64), .long 0, .long 1000]) (rest := []) ⟨hx, hb, hml, hown, hts⟩ (c_X5_in l ((nI t).toInt64) 0 1000 ) (va_cwS 3 hts gX5_sum_X5_in rfl rfl rfl (by decide +kernel) ⟨Nat.le_of_ble_eq_true rfl, Nat.le_of_ble_eq_true rfl⟩) rr_preT rfl rfl hl.1 rfl (lv_room (Nat.le_of_ble_eq_true rfl)) dX5_sum_20 ⟨Nat.zero_le _, Nat.zero_le _⟩) ?_
  refine rr_top (y := bi (inb (nI t) 1001)) (congrArg bi (inL_lit (by decide))) ?_
  refine rr_top (y := bi true) (congrArg bi (inb_lt (by omega) (by omega))) ?_
  refine rb_if_eq (tgt := 35) hx hb dX5_sum_23 (by decide) (fun c23 => ?_) (fun c23 => ?_)
  · exact absurd c23 (by decide)
  refine lv_aload_n hx hb dX5_sum_26 rfl (lv_at hl 0 rfl) ?_
  refine lv_iload hx hb dX5_sum_27 (lv_at hl 4 rfl) ?_
  refine rr_callR (va_runV (As := [.int (nI k)]) (rest := []) ⟨hx, hb, hml, hown, hts⟩ (c_X5_isWheel l dC dI cI cJ cS m0 mw mt ml mz mi mr md mh im tl at0 st0 nu rm rh Bw (nI k) (by first | assumption | omega)) (cwV 1 hts gX5_sum_X5_isWheel rfl rfl rfl (by decide +kernel) ⟨Nat.le_of_ble_eq_true rfl, Nat.le_of_ble_eq_true rfl⟩) (rr_preV hKK hP rfl rfl) rfl rfl hl.1 rfl (lv_room (Nat.le_of_ble_eq_true rfl)) dX5_sum_29 ⟨Nat.zero_le _, Nat.zero_le _⟩) ?_
  refine rr_top (y := bi true) (congrArg bi (inb_lt (by omega) (by omega))) ?_
  refine rb_if_ne (tgt := 37) hx hb dX5_sum_32 (by decide) (fun c32 => ?_) (fun c32 => ?_)
  rotate_left
  · exact absurd c32 (by decide)
  refine lv_aload_n hx hb dX5_sum_37 rfl (lv_at hl 0 rfl) ?_
  refine va_get (D := (dC, dI)) (ci := 5) (v := .ref mw) (C := RX5) (T := TX5) (N := 15) hx hb hts hiX5 hown hK hP 0 rfl rfl 0 (by decide) (hts (.fieldLink RX5 7 "RestRegistersModel" "w" "[I") (by decide +kernel)) (fun _ h9 => h9) rfl dX5_sum_38 ?_
  refine lv_bipush (v := (nI 15)) hx hb dX5_sum_41 (by decide) ?_
  refine lv_bipush (v := (nI 6)) hx hb dX5_sum_43 (by decide) ?_
  refine lv_iload_n hx hb dX5_sum_45 rfl (lv_at hl 1 rfl) ?_
  refine rn_imul hx hb dX5_sum_46 ?_
  refine rn_iadd hx hb dX5_sum_47 ?_
  refine lv_iload hx hb dX5_sum_48 (lv_at hl 4 rfl) ?_
  refine rn_iadd hx hb dX5_sum_50 ?_
  refine rn_iald hx hb hK hP 1 0 rfl rfl (i := 15 + (6 * r) + k) (by omega) (by decide) (v := (nI (rsB Bw (r * 6 + k)))) (rs_at _ _ _) dX5_sum_51 ?_
  refine lv_istore (lv' := [(5, .int (nI (rsB Bw (r * 6 + k)))), (0, .ref m0), (1, .int (nI r)), (2, .int (nI o)), (3, .int (nI t)), (4, .int (nI k))]) hx hb dX5_sum_52 hl (by decide) rfl (fun ls hl => ?_)
  refine lv_iconst (v := (nI 0)) hx hb dX5_sum_54 (by decide) ?_
  refine lv_istore (lv' := [(6, .int (nI 0)), (5, .int (nI (rsB Bw (r * 6 + k)))), (0, .ref m0), (1, .int (nI r)), (2, .int (nI o)), (3, .int (nI t)), (4, .int (nI k))]) hx hb dX5_sum_55 hl (by decide) rfl (fun ls hl => ?_)
  refine rl1 (A1 := Nat) (fun ls => W p l e _ s m _ below meth c s.heap [] 0 0 _ (F0 m 57 ls [])) (fun i ls => i ≤ t ∧ lv_has ls 7 [(6, .int (nI i)), (5, .int (nI (addO (kdB Bw k) (wdB Bw k) (rsB Bw (r * 6 + k)) (rsB Bw (o * 6 + k)) i))), (0, .ref m0), (1, .int (nI r)), (2, .int (nI o)), (3, .int (nI t)), (4, .int (nI k))]) (fun i => t - i) ?_ 0 ls ⟨by omega, lv_sub hl [0, 1, 2, 3, 4, 5, 6] rfl⟩
  rintro i ls ⟨hi, hl⟩ ih57
  refine lv_iload hx hb dX5_sum_57 (lv_at hl 0 rfl) ?_
  refine lv_iload_n hx hb dX5_sum_59 rfl (lv_at hl 5 rfl) ?_
  refine rn_icmp_ge (tgt := 94) hx hb dX5_sum_60 (by decide) (by omega) (by omega) (fun c60 => ?_) (fun c60 => ?_)
  · skip
    refine lv_iload hx hb dX5_sum_94 (lv_at hl 1 rfl) ?_
    exact rr_iret hx hb hr hlocks dX5_sum_96 (by rw [Nat.le_antisymm hi c60])
  refine lv_aload_n hx hb dX5_sum_63 rfl (lv_at hl 2 rfl) ?_
  refine lv_iload hx hb dX5_sum_64 (lv_at hl 6 rfl) ?_
  refine lv_iload hx hb dX5_sum_66 (lv_at hl 1 rfl) ?_
  refine lv_aload_n hx hb dX5_sum_68 rfl (lv_at hl 2 rfl) ?_
  refine va_get (D := (dC, dI)) (ci := 5) (v := .ref mw) (C := RX5) (T := TX5) (N := 15) hx hb hts hiX5 hown hK hP 0 rfl rfl 0 (by decide) (hts (.fieldLink RX5 7 "RestRegistersModel" "w" "[I") (by decide +kernel)) (fun _ h9 => h9) rfl dX5_sum_69 ?_
  refine lv_bipush (v := (nI 15)) hx hb dX5_sum_72 (by decide) ?_
  refine lv_bipush (v := (nI 6)) hx hb dX5_sum_74 (by decide) ?_
  refine lv_iload_n hx hb dX5_sum_76 rfl (lv_at hl 4 rfl) ?_
  refine rn_imul hx hb dX5_sum_77 ?_
  refine rn_iadd hx hb dX5_sum_78 ?_
  refine lv_iload hx hb dX5_sum_79 (lv_at hl 6 rfl) ?_
  refine rn_iadd hx hb dX5_sum_81 ?_
  refine rn_iald hx hb hK hP 1 0 rfl rfl (i := 15 + (6 * o) + k) (by omega) (by decide) (v := (nI (rsB Bw (o * 6 + k)))) (rs_at _ _ _) dX5_sum_82 ?_
  refine rr_callR (va_runV (As := [.int (nI k), .int (nI (addO (kdB Bw k) (wdB Bw k) (rsB Bw (r * 6 + k)) (rsB Bw (o * 6 + k)) i)), .int (nI (rsB Bw (o * 6 + k)))]) (rest := []) ⟨hx, hb, hml, hown, hts⟩ (c_X5_added l dC dI cI cJ cS m0 mw mt ml mz mi mr md mh im tl at0 st0 nu rm rh Bw k (addO (kdB Bw k) (wdB Bw k) (rsB Bw (r * 6 + k)) (rsB Bw (o * 6 + k)) i) (rsB Bw (o * 6 + k)) (kdB Bw k) (wdB Bw k) (rfl) (rfl) (hm.kd k (by omega)) ((hm.wd k (by omega)).1) ((hm.wd k (by omega)).2) (by first | assumption | omega) (addO_lt hra hrb i) (by first | assumption | omega)) (cwV 3 hts gX5_sum_X5_added rfl rfl rfl (by decide +kernel) ⟨Nat.le_of_ble_eq_true rfl, Nat.le_of_ble_eq_true rfl⟩) (rr_preV hKK hP rfl rfl) rfl rfl hl.1 rfl (lv_room (Nat.le_of_ble_eq_true rfl)) dX5_sum_83 ⟨Nat.zero_le _, Nat.zero_le _⟩) ?_
  refine lv_istore (lv' := [(5, .int (nI (addK (kdB Bw k) (wdB Bw k) (addO (kdB Bw k) (wdB Bw k) (rsB Bw (r * 6 + k)) (rsB Bw (o * 6 + k)) i) (rsB Bw (o * 6 + k))))), (6, .int (nI i)), (0, .ref m0), (1, .int (nI r)), (2, .int (nI o)), (3, .int (nI t)), (4, .int (nI k))]) hx hb dX5_sum_86 hl (by decide) rfl (fun ls hl => ?_)
  refine lv_iinc (v := (nI (i + 1))) (lv' := [(6, .int (nI (i + 1))), (5, .int (nI (addK (kdB Bw k) (wdB Bw k) (addO (kdB Bw k) (wdB Bw k) (rsB Bw (r * 6 + k)) (rsB Bw (o * 6 + k)) i) (rsB Bw (o * 6 + k))))), (0, .ref m0), (1, .int (nI r)), (2, .int (nI o)), (3, .int (nI t)), (4, .int (nI k))]) hx hb dX5_sum_88 hl (k := 1) rfl (rn_inc i 1) (by decide) rfl (fun ls hl => ?_)
  refine lv_goto (tgt := 57) hx hb dX5_sum_91 (by decide) ?_
  exact ih57 (i + 1) ls ⟨by omega, lv_sub hl [0, 1, 2, 3, 4, 5, 6] rfl⟩ (by omega)
set_option maxHeartbeats 4000000 in
set_option maxRecDepth 100000 in
theorem c_X5_sum_b (l : Launch) (dC : Nat → ClassId) (dI : Nat → Nat → Nat) (cI cJ cS : ClassId) (m0 mw mt ml mz mi mr md mh : Nat) (im : Bool) (tl at0 st0 nu rm rh : Nat) (Bw : Nat → Nat) (x y z u : Int32) (hm : mOk Bw) (hbad : (inb x 4 && inb y 4 && inb z 1001 && inb u (Bw 0)) = false) : Met l yX5_sum wsX5_sum ({ frames := 4, cells := 0, slots := 0, locals := 91 }) (va_Pc [.ref m0, .int x, .int y, .int z, .int u] (rB (dC, dI) vwCl [(m0, .inr (5, [.ref mw, .int (bi im), .ref mt, .int (nI tl), .ref ml, .ref mz, .ref mi, .ref mr, .int (nI at0), .int (nI st0), .int (nI nu), .int (nI rm), .int (nI rh), .ref md, .ref mh])), (mw, .inl (cI, 480, .inl (nA Bw)))] (tyz cI cJ cS))) (QcRead (-1)) 0 0 (fun _ => False) := by
  refine Met.ofW (cc := cX5_sum) (maxL := 7) (ret := (some .int)) (by decide) rfl ?_
  intro p e s m args below meth c s₁ B hml hv
  obtain ⟨rfl, hP, hKK⟩ := hv
  have hK := hKK.1
  have hx := B.exec
  have hb := B.bytes
  have hr := B.returns
  have hts := atoms_spec (ws := wsX5_sum) B.pre
  have hown : s.vm.findClass RX5 = some m.cls := findClass_of_methodNamed B.named
  have hlocks := B.notSynchronized
  have hiX5 : ∀ w ∈ wsX50, w ∈ wsX5_sum := by decide +kernel
  have hl := lv_entry ([.ref m0, .int x, .int y, .int z, .int u]) (n := 7) (Nat.le_of_ble_eq_true rfl)
  rw [lg_entry_eq]
  generalize (lg_sl ([.ref m0, .int x, .int y, .int z, .int u]) ++ List.replicate (7 - (lg_sl ([.ref m0, .int x, .int y, .int z, .int u])).length) Slot.unset).toArray = ls at hl ⊢
  have hl : lv_has ls 7 [(0, .ref m0), (1, .int x), (2, .int y), (3, .int z), (4, .int u)] := hl
  have hn6 := hm.n
  refine lv_iload_n hx hb dX5_sum_0 rfl (lv_at hl 1 rfl) ?_
  refine rr_callR (va_runS (As := [.int x]) (rest := []) ⟨hx, hb, hml, hown, hts⟩ (c_X5_isRegister l x ) (va_cwS 1 hts gX5_sum_X5_isRegister rfl rfl rfl (by decide +kernel) ⟨Nat.le_of_ble_eq_true rfl, Nat.le_of_ble_eq_true rfl⟩) rr_preT rfl rfl hl.1 rfl (lv_room (Nat.le_of_ble_eq_true rfl)) dX5_sum_1 ⟨Nat.zero_le _, Nat.zero_le _⟩) ?_
  refine rb_if_eq (tgt := 35) hx hb dX5_sum_4 (by decide) (fun c4 => ?_) (fun c4 => ?_)
  · skip
    refine lv_iconst (v := (-1)) hx hb dX5_sum_35 (by decide) ?_
    exact rr_iret hx hb hr hlocks dX5_sum_36 (rfl)
  refine lv_iload_n hx hb dX5_sum_7 rfl (lv_at hl 2 rfl) ?_
  refine rr_callR (va_runS (As := [.int y]) (rest := []) ⟨hx, hb, hml, hown, hts⟩ (c_X5_isRegister l y ) (va_cwS 1 hts gX5_sum_X5_isRegister rfl rfl rfl (by decide +kernel) ⟨Nat.le_of_ble_eq_true rfl, Nat.le_of_ble_eq_true rfl⟩) rr_preT rfl rfl hl.1 rfl (lv_room (Nat.le_of_ble_eq_true rfl)) dX5_sum_8 ⟨Nat.zero_le _, Nat.zero_le _⟩) ?_
  refine rb_if_eq (tgt := 35) hx hb dX5_sum_11 (by decide) (fun c11 => ?_) (fun c11 => ?_)
  · skip
    refine lv_iconst (v := (-1)) hx hb dX5_sum_35 (by decide) ?_
    exact rr_iret hx hb hr hlocks dX5_sum_36 (rfl)
  refine lv_iload_n hx hb dX5_sum_14 rfl (lv_at hl 3 rfl) ?_
  refine lv_i2l hx hb dX5_sum_15 rfl ?_
  refine lv_lconst (v := 0) hx hb dX5_sum_16 (by decide) ?_
  refine lv_ldc2 (v := 1000) hx hb hown (hts (.constantLong RX5 171 (1000)) (by decide +kernel)) dX5_sum_17 ?_
  refine rr_callR (va_runS (As := [.long z.toInt64, .long 0, .long 1000]) (rest := []) ⟨hx, hb, hml, hown, hts⟩ (c_X5_in l z.toInt64 0 1000 ) (va_cwS 3 hts gX5_sum_X5_in rfl rfl rfl (by decide +kernel) ⟨Nat.le_of_ble_eq_true rfl, Nat.le_of_ble_eq_true rfl⟩) rr_preT rfl rfl hl.1 rfl (lv_room (Nat.le_of_ble_eq_true rfl)) dX5_sum_20 ⟨Nat.zero_le _, Nat.zero_le _⟩) ?_
  refine rr_top (y := bi (inb z 1001)) (congrArg bi (inL_lit (by decide))) ?_
  refine rb_if_eq (tgt := 35) hx hb dX5_sum_23 (by decide) (fun c23 => ?_) (fun c23 => ?_)
  · skip
    refine lv_iconst (v := (-1)) hx hb dX5_sum_35 (by decide) ?_
    exact rr_iret hx hb hr hlocks dX5_sum_36 (rfl)
  refine lv_aload_n hx hb dX5_sum_26 rfl (lv_at hl 0 rfl) ?_
  refine lv_iload hx hb dX5_sum_27 (lv_at hl 4 rfl) ?_
  refine rr_callR (va_runV (As := [.int u]) (rest := []) ⟨hx, hb, hml, hown, hts⟩ (c_X5_isWheel l dC dI cI cJ cS m0 mw mt ml mz mi mr md mh im tl at0 st0 nu rm rh Bw u (by first | assumption | omega)) (cwV 1 hts gX5_sum_X5_isWheel rfl rfl rfl (by decide +kernel) ⟨Nat.le_of_ble_eq_true rfl, Nat.le_of_ble_eq_true rfl⟩) (rr_preV hKK hP rfl rfl) rfl rfl hl.1 rfl (lv_room (Nat.le_of_ble_eq_true rfl)) dX5_sum_29 ⟨Nat.zero_le _, Nat.zero_le _⟩) ?_
  refine rb_if_ne (tgt := 37) hx hb dX5_sum_32 (by decide) (fun c32 => ?_) (fun c32 => ?_)
  · skip
    exact absurd hbad (by rw [c4, c11, c23, c32]; decide)
  refine lv_iconst (v := (-1)) hx hb dX5_sum_35 (by decide) ?_
  exact rr_iret hx hb hr hlocks dX5_sum_36 (rfl)
set_option maxHeartbeats 4000000 in
set_option maxRecDepth 100000 in
theorem c_X5_should_g (l : Launch) (dC : Nat → ClassId) (dI : Nat → Nat → Nat) (cI cJ cS : ClassId) (m0 mw mt ml mz mi mr md mh : Nat) (im : Bool) (tl at0 st0 nu rm rh : Nat) (Bw : Nat → Nat) (r o : Nat) (hm : mOk Bw) (hr4 : r < 4) (ho4 : o < 4) : Met l yX5_should wsX5_should ({ frames := 4, cells := 0, slots := 0, locals := 91 }) (va_Pc [.ref m0, .int (nI r), .int (nI o)] (rB (dC, dI) vwCl [(m0, .inr (5, [.ref mw, .int (bi im), .ref mt, .int (nI tl), .ref ml, .ref mz, .ref mi, .ref mr, .int (nI at0), .int (nI st0), .int (nI nu), .int (nI rm), .int (nI rh), .ref md, .ref mh])), (mw, .inl (cI, 480, .inl (nA Bw)))] (tyz cI cJ cS))) (QcRead (nI (orS (fun k => wrongB (kdB Bw k) (wdB Bw k) (rsB Bw (r * 6 + k)) (rsB Bw (o * 6 + k))) (Bw 0)))) 0 0 (fun _ => False) := by
  refine Met.ofW (cc := cX5_should) (maxL := 7) (ret := (some .int)) (by decide) rfl ?_
  intro p e s m args below meth c s₁ B hml hv
  obtain ⟨rfl, hP, hKK⟩ := hv
  have hK := hKK.1
  have hx := B.exec
  have hb := B.bytes
  have hr := B.returns
  have hts := atoms_spec (ws := wsX5_should) B.pre
  have hown : s.vm.findClass RX5 = some m.cls := findClass_of_methodNamed B.named
  have hlocks := B.notSynchronized
  have hiX5 : ∀ w ∈ wsX50, w ∈ wsX5_should := by decide +kernel
  have hl := lv_entry ([.ref m0, .int (nI r), .int (nI o)]) (n := 7) (Nat.le_of_ble_eq_true rfl)
  rw [lg_entry_eq]
  generalize (lg_sl ([.ref m0, .int (nI r), .int (nI o)]) ++ List.replicate (7 - (lg_sl ([.ref m0, .int (nI r), .int (nI o)])).length) Slot.unset).toArray = ls at hl ⊢
  have hl : lv_has ls 7 [(0, .ref m0), (1, .int (nI r)), (2, .int (nI o))] := hl
  have hn6 := hm.n
  refine lv_iload_n hx hb dX5_should_0 rfl (lv_at hl 1 rfl) ?_
  refine rr_callR (va_runS (As := [.int (nI r)]) (rest := []) ⟨hx, hb, hml, hown, hts⟩ (c_X5_isRegister l (nI r) ) (va_cwS 1 hts gX5_should_X5_isRegister rfl rfl rfl (by decide +kernel) ⟨Nat.le_of_ble_eq_true rfl, Nat.le_of_ble_eq_true rfl⟩) rr_preT rfl rfl hl.1 rfl (lv_room (Nat.le_of_ble_eq_true rfl)) dX5_should_1 ⟨Nat.zero_le _, Nat.zero_le _⟩) ?_
  refine rr_top (y := bi true) (congrArg bi (inb_lt (by omega) (by omega))) ?_
  refine rb_if_eq (tgt := 14) hx hb dX5_should_4 (by decide) (fun c4 => ?_) (fun c4 => ?_)
  · exact absurd c4 (by decide)
  refine lv_iload_n hx hb dX5_should_7 rfl (lv_at hl 2 rfl) ?_
  refine rr_callR (va_runS (As := [.int (nI o)]) (rest := []) ⟨hx, hb, hml, hown, hts⟩ (c_X5_isRegister l (nI o) ) (va_cwS 1 hts gX5_should_X5_isRegister rfl rfl rfl (by decide +kernel) ⟨Nat.le_of_ble_eq_true rfl, Nat.le_of_ble_eq_true rfl⟩) rr_preT rfl rfl hl.1 rfl (lv_room (Nat.le_of_ble_eq_true rfl)) dX5_should_8 ⟨Nat.zero_le _, Nat.zero_le _⟩) ?_
  refine rr_top (y := bi true) (congrArg bi (inb_lt (by omega) (by omega))) ?_
  refine rb_if_ne (tgt := 16) hx hb dX5_should_11 (by decide) (fun c11 => ?_) (fun c11 => ?_)
  rotate_left
  · exact absurd c11 (by decide)
  refine lv_iconst (v := (nI 0)) hx hb dX5_should_16 (by decide) ?_
  refine lv_istore_n (lv' := [(3, .int (nI 0)), (0, .ref m0), (1, .int (nI r)), (2, .int (nI o))]) hx hb dX5_should_17 rfl hl (by decide) rfl (fun ls hl => ?_)
  refine lv_iconst (v := (nI 0)) hx hb dX5_should_18 (by decide) ?_
  refine lv_istore (lv' := [(4, .int (nI 0)), (3, .int (nI 0)), (0, .ref m0), (1, .int (nI r)), (2, .int (nI o))]) hx hb dX5_should_19 hl (by decide) rfl (fun ls hl => ?_)
  refine rl1 (A1 := Nat) (fun ls => W p l e _ s m _ below meth c s.heap [] 0 0 _ (F0 m 21 ls [])) (fun k ls => k ≤ Bw 0 ∧ lv_has ls 7 [(4, .int (nI k)), (3, .int (nI (orS (fun k => wrongB (kdB Bw k) (wdB Bw k) (rsB Bw (r * 6 + k)) (rsB Bw (o * 6 + k))) k))), (0, .ref m0), (1, .int (nI r)), (2, .int (nI o))]) (fun k => Bw 0 - k) ?_ 0 ls ⟨by omega, lv_sub hl [0, 1, 2, 3, 4] rfl⟩
  rintro k ls ⟨hi, hl⟩ ih21
  refine lv_iload hx hb dX5_should_21 (lv_at hl 0 rfl) ?_
  refine lv_aload_n hx hb dX5_should_23 rfl (lv_at hl 2 rfl) ?_
  refine va_get (D := (dC, dI)) (ci := 5) (v := .ref mw) (C := RX5) (T := TX5) (N := 15) hx hb hts hiX5 hown hK hP 0 rfl rfl 0 (by decide) (hts (.fieldLink RX5 7 "RestRegistersModel" "w" "[I") (by decide +kernel)) (fun _ h9 => h9) rfl dX5_should_24 ?_
  refine lv_iconst (v := (nI 0)) hx hb dX5_should_27 (by decide) ?_
  refine rn_iald hx hb hK hP 1 0 rfl rfl (i := 0) (by omega) (by decide) (v := (nI (Bw 0))) rfl dX5_should_28 ?_
  refine rn_icmp_ge (tgt := 113) hx hb dX5_should_29 (by decide) (by omega) (by omega) (fun c29 => ?_) (fun c29 => ?_)
  · skip
    refine lv_iload_n hx hb dX5_should_113 rfl (lv_at hl 1 rfl) ?_
    exact rr_iret hx hb hr hlocks dX5_should_114 (by rw [Nat.le_antisymm hi c29])
  refine lv_aload_n hx hb dX5_should_32 rfl (lv_at hl 2 rfl) ?_
  refine va_get (D := (dC, dI)) (ci := 5) (v := .ref mw) (C := RX5) (T := TX5) (N := 15) hx hb hts hiX5 hown hK hP 0 rfl rfl 0 (by decide) (hts (.fieldLink RX5 7 "RestRegistersModel" "w" "[I") (by decide +kernel)) (fun _ h9 => h9) rfl dX5_should_33 ?_
  refine lv_bipush (v := (nI 15)) hx hb dX5_should_36 (by decide) ?_
  refine lv_bipush (v := (nI 6)) hx hb dX5_should_38 (by decide) ?_
  refine lv_iload_n hx hb dX5_should_40 rfl (lv_at hl 3 rfl) ?_
  refine rn_imul hx hb dX5_should_41 ?_
  refine rn_iadd hx hb dX5_should_42 ?_
  refine lv_iload hx hb dX5_should_43 (lv_at hl 0 rfl) ?_
  refine rn_iadd hx hb dX5_should_45 ?_
  refine rn_iald hx hb hK hP 1 0 rfl rfl (i := 15 + (6 * r) + k) (by omega) (by decide) (v := (nI (rsB Bw (r * 6 + k)))) (rs_at _ _ _) dX5_should_46 ?_
  refine lv_istore (lv' := [(5, .int (nI (rsB Bw (r * 6 + k)))), (4, .int (nI k)), (3, .int (nI (orS (fun k => wrongB (kdB Bw k) (wdB Bw k) (rsB Bw (r * 6 + k)) (rsB Bw (o * 6 + k))) k))), (0, .ref m0), (1, .int (nI r)), (2, .int (nI o))]) hx hb dX5_should_47 hl (by decide) rfl (fun ls hl => ?_)
  refine lv_aload_n hx hb dX5_should_49 rfl (lv_at hl 3 rfl) ?_
  refine va_get (D := (dC, dI)) (ci := 5) (v := .ref mw) (C := RX5) (T := TX5) (N := 15) hx hb hts hiX5 hown hK hP 0 rfl rfl 0 (by decide) (hts (.fieldLink RX5 7 "RestRegistersModel" "w" "[I") (by decide +kernel)) (fun _ h9 => h9) rfl dX5_should_50 ?_
  refine lv_bipush (v := (nI 15)) hx hb dX5_should_53 (by decide) ?_
  refine lv_bipush (v := (nI 6)) hx hb dX5_should_55 (by decide) ?_
  refine lv_iload_n hx hb dX5_should_57 rfl (lv_at hl 5 rfl) ?_
  refine rn_imul hx hb dX5_should_58 ?_
  refine rn_iadd hx hb dX5_should_59 ?_
  refine lv_iload hx hb dX5_should_60 (lv_at hl 1 rfl) ?_
  refine rn_iadd hx hb dX5_should_62 ?_
  refine rn_iald hx hb hK hP 1 0 rfl rfl (i := 15 + (6 * o) + k) (by omega) (by decide) (v := (nI (rsB Bw (o * 6 + k)))) (rs_at _ _ _) dX5_should_63 ?_
  refine lv_istore (lv' := [(6, .int (nI (rsB Bw (o * 6 + k)))), (5, .int (nI (rsB Bw (r * 6 + k)))), (4, .int (nI k)), (3, .int (nI (orS (fun k => wrongB (kdB Bw k) (wdB Bw k) (rsB Bw (r * 6 + k)) (rsB Bw (o * 6 + k))) k))), (0, .ref m0), (1, .int (nI r)), (2, .int (nI o))]) hx hb dX5_should_64 hl (by decide) rfl (fun ls hl => ?_)
  have hra := hm.row hr4 k (by omega)
  have hrb := hm.row ho4 k (by omega)
  have hw9 := hm.wd k (by omega)
  refine lv_iload_n hx hb dX5_should_66 rfl (lv_at hl 3 rfl) ?_
  refine lv_aload_n hx hb dX5_should_67 rfl (lv_at hl 4 rfl) ?_
  refine lv_iload hx hb dX5_should_68 (lv_at hl 2 rfl) ?_
  refine lv_iload hx hb dX5_should_70 (lv_at hl 1 rfl) ?_
  refine lv_iload hx hb dX5_should_72 (lv_at hl 0 rfl) ?_
  refine rr_callR (va_runV (As := [.int (nI k), .int (nI (rsB Bw (r * 6 + k))), .int (nI (rsB Bw (o * 6 + k)))]) (rest := [.int (nI (orS (fun k => wrongB (kdB Bw k) (wdB Bw k) (rsB Bw (r * 6 + k)) (rsB Bw (o * 6 + k))) k))]) ⟨hx, hb, hml, hown, hts⟩ (c_X5_added l dC dI cI cJ cS m0 mw mt ml mz mi mr md mh im tl at0 st0 nu rm rh Bw k (rsB Bw (r * 6 + k)) (rsB Bw (o * 6 + k)) (kdB Bw k) (wdB Bw k) (rfl) (rfl) (hm.kd k (by omega)) ((hm.wd k (by omega)).1) ((hm.wd k (by omega)).2) (by first | assumption | omega) (by first | assumption | omega) (by first | assumption | omega)) (cwV 3 hts gX5_should_X5_added rfl rfl rfl (by decide +kernel) ⟨Nat.le_of_ble_eq_true rfl, Nat.le_of_ble_eq_true rfl⟩) (rr_preV hKK hP rfl rfl) rfl rfl hl.1 rfl (lv_room (Nat.le_of_ble_eq_true rfl)) dX5_should_74 ⟨Nat.zero_le _, Nat.zero_le _⟩) ?_
  refine lv_aload_n hx hb dX5_should_77 rfl (lv_at hl 4 rfl) ?_
  refine va_get (D := (dC, dI)) (ci := 5) (v := .ref mw) (C := RX5) (T := TX5) (N := 15) hx hb hts hiX5 hown hK hP 0 rfl rfl 0 (by decide) (hts (.fieldLink RX5 7 "RestRegistersModel" "w" "[I") (by decide +kernel)) (fun _ h9 => h9) rfl dX5_should_78 ?_
  refine lv_bipush (v := (nI 8)) hx hb dX5_should_81 (by decide) ?_
  refine lv_iload hx hb dX5_should_83 (lv_at hl 2 rfl) ?_
  refine rn_iadd hx hb dX5_should_85 ?_
  refine rn_iald hx hb hK hP 1 0 rfl rfl (i := 8 + k) (by omega) (by decide) (v := (nI (wdB Bw k))) rfl dX5_should_86 ?_
  have hv86 := hm.wd k (by omega)
  refine lv_iload hx hb dX5_should_87 (lv_at hl 1 rfl) ?_
  refine lv_iload hx hb dX5_should_89 (lv_at hl 0 rfl) ?_
  refine rr_callR (va_runS (As := [.int (nI (wdB Bw k)), .int (nI (rsB Bw (r * 6 + k))), .int (nI (rsB Bw (o * 6 + k)))]) (rest := [.int (nI (addK (kdB Bw k) (wdB Bw k) (rsB Bw (r * 6 + k)) (rsB Bw (o * 6 + k)))), .int (nI (orS (fun k => wrongB (kdB Bw k) (wdB Bw k) (rsB Bw (r * 6 + k)) (rsB Bw (o * 6 + k))) k))]) ⟨hx, hb, hml, hown, hts⟩ (c_X5_plain l (wdB Bw k) (rsB Bw (r * 6 + k)) (rsB Bw (o * 6 + k)) (by first | assumption | omega) (by first | assumption | omega) (by first | assumption | omega) (by first | assumption | omega)) (va_cwS 3 hts gX5_should_X5_plain rfl rfl rfl (by decide +kernel) ⟨Nat.le_of_ble_eq_true rfl, Nat.le_of_ble_eq_true rfl⟩) rr_preT rfl rfl hl.1 rfl (lv_room (Nat.le_of_ble_eq_true rfl)) dX5_should_91 ⟨Nat.zero_le _, Nat.zero_le _⟩) ?_
  have hal := addK_lt (kdB Bw k) hra hrb
  have hpl := plainA_lt (rsB Bw (r * 6 + k)) (rsB Bw (o * 6 + k)) (show 0 < wdB Bw k by omega)
  refine rn_icmp_ne (tgt := 101) hx hb dX5_should_94 (by decide) (by omega) (by omega) (fun c94 => ?_) (fun c94 => ?_)
  · skip
    refine lv_iconst (v := (nI 1)) hx hb dX5_should_101 (by decide) ?_
    refine lv_iload hx hb dX5_should_102 (lv_at hl 2 rfl) ?_
    refine lv_ishl hx hb dX5_should_104 ?_
    refine rr_top (y := nI (2 ^ k)) (shl_eq (by omega)) ?_
    refine lv_ior hx hb dX5_should_105 ?_
    refine rr_top (y := (nI (orS (fun k => wrongB (kdB Bw k) (wdB Bw k) (rsB Bw (r * 6 + k)) (rsB Bw (o * 6 + k))) (k + 1)))) (by rw [or_eq, orS]; first | (rw [if_pos (show wrongB (kdB Bw k) (wdB Bw k) (rsB Bw (r * 6 + k)) (rsB Bw (o * 6 + k)) = true from decide_eq_true c94)]; done) | (rw [if_neg (show ¬ wrongB (kdB Bw k) (wdB Bw k) (rsB Bw (r * 6 + k)) (rsB Bw (o * 6 + k)) = true from fun q => of_decide_eq_true q c94)])) ?_
    refine lv_istore_n (lv' := [(3, .int (nI (orS (fun k => wrongB (kdB Bw k) (wdB Bw k) (rsB Bw (r * 6 + k)) (rsB Bw (o * 6 + k))) (k + 1)))), (6, .int (nI (rsB Bw (o * 6 + k)))), (5, .int (nI (rsB Bw (r * 6 + k)))), (4, .int (nI k)), (0, .ref m0), (1, .int (nI r)), (2, .int (nI o))]) hx hb dX5_should_106 rfl hl (by decide) rfl (fun ls hl => ?_)
    refine lv_iinc (v := (nI (k + 1))) (lv' := [(4, .int (nI (k + 1))), (3, .int (nI (orS (fun k => wrongB (kdB Bw k) (wdB Bw k) (rsB Bw (r * 6 + k)) (rsB Bw (o * 6 + k))) (k + 1)))), (6, .int (nI (rsB Bw (o * 6 + k)))), (5, .int (nI (rsB Bw (r * 6 + k)))), (0, .ref m0), (1, .int (nI r)), (2, .int (nI o))]) hx hb dX5_should_107 hl (k := 3) rfl (rn_inc k 1) (by decide) rfl (fun ls hl => ?_)
    refine lv_goto (tgt := 21) hx hb dX5_should_110 (by decide) ?_
    exact ih21 (k + 1) ls ⟨by omega, lv_sub hl [0, 1, 4, 5, 6] rfl⟩ (by omega)
  refine lv_iconst (v := (nI 0)) hx hb dX5_should_97 (by decide) ?_
  refine lv_goto (tgt := 105) hx hb dX5_should_98 (by decide) ?_
  refine lv_ior hx hb dX5_should_105 ?_
  refine rr_top (y := (nI (orS (fun k => wrongB (kdB Bw k) (wdB Bw k) (rsB Bw (r * 6 + k)) (rsB Bw (o * 6 + k))) (k + 1)))) (by rw [or_eq, orS]; first | (rw [if_pos (show wrongB (kdB Bw k) (wdB Bw k) (rsB Bw (r * 6 + k)) (rsB Bw (o * 6 + k)) = true from decide_eq_true c94)]; done) | (rw [if_neg (show ¬ wrongB (kdB Bw k) (wdB Bw k) (rsB Bw (r * 6 + k)) (rsB Bw (o * 6 + k)) = true from fun q => of_decide_eq_true q c94)])) ?_
  refine lv_istore_n (lv' := [(3, .int (nI (orS (fun k => wrongB (kdB Bw k) (wdB Bw k) (rsB Bw (r * 6 + k)) (rsB Bw (o * 6 + k))) (k + 1)))), (6, .int (nI (rsB Bw (o * 6 + k)))), (5, .int (nI (rsB Bw (r * 6 + k)))), (4, .int (nI k)), (0, .ref m0), (1, .int (nI r)), (2, .int (nI o))]) hx hb dX5_should_106 rfl hl (by decide) rfl (fun ls hl => ?_)
  refine lv_iinc (v := (nI (k + 1))) (lv' := [(4, .int (nI (k + 1))), (3, .int (nI (orS (fun k => wrongB (kdB Bw k) (wdB Bw k) (rsB Bw (r * 6 + k)) (rsB Bw (o * 6 + k))) (k + 1)))), (6, .int (nI (rsB Bw (o * 6 + k)))), (5, .int (nI (rsB Bw (r * 6 + k)))), (0, .ref m0), (1, .int (nI r)), (2, .int (nI o))]) hx hb dX5_should_107 hl (k := 3) rfl (rn_inc k 1) (by decide) rfl (fun ls hl => ?_)
  refine lv_goto (tgt := 21) hx hb dX5_should_110 (by decide) ?_
  exact ih21 (k + 1) ls ⟨by omega, lv_sub hl [0, 1, 4, 5, 6] rfl⟩ (by omega)
set_option maxHeartbeats 4000000 in
set_option maxRecDepth 100000 in
theorem c_X5_should_b (l : Launch) (dC : Nat → ClassId) (dI : Nat → Nat → Nat) (cI cJ cS : ClassId) (m0 mw mt ml mz mi mr md mh : Nat) (im : Bool) (tl at0 st0 nu rm rh : Nat) (Bw : Nat → Nat) (x y : Int32) (hm : mOk Bw) (hbad : (inb x 4 && inb y 4) = false) : Met l yX5_should wsX5_should ({ frames := 4, cells := 0, slots := 0, locals := 91 }) (va_Pc [.ref m0, .int x, .int y] (rB (dC, dI) vwCl [(m0, .inr (5, [.ref mw, .int (bi im), .ref mt, .int (nI tl), .ref ml, .ref mz, .ref mi, .ref mr, .int (nI at0), .int (nI st0), .int (nI nu), .int (nI rm), .int (nI rh), .ref md, .ref mh])), (mw, .inl (cI, 480, .inl (nA Bw)))] (tyz cI cJ cS))) (QcRead (-1)) 0 0 (fun _ => False) := by
  refine Met.ofW (cc := cX5_should) (maxL := 7) (ret := (some .int)) (by decide) rfl ?_
  intro p e s m args below meth c s₁ B hml hv
  obtain ⟨rfl, hP, hKK⟩ := hv
  have hK := hKK.1
  have hx := B.exec
  have hb := B.bytes
  have hr := B.returns
  have hts := atoms_spec (ws := wsX5_should) B.pre
  have hown : s.vm.findClass RX5 = some m.cls := findClass_of_methodNamed B.named
  have hlocks := B.notSynchronized
  have hiX5 : ∀ w ∈ wsX50, w ∈ wsX5_should := by decide +kernel
  have hl := lv_entry ([.ref m0, .int x, .int y]) (n := 7) (Nat.le_of_ble_eq_true rfl)
  rw [lg_entry_eq]
  generalize (lg_sl ([.ref m0, .int x, .int y]) ++ List.replicate (7 - (lg_sl ([.ref m0, .int x, .int y])).length) Slot.unset).toArray = ls at hl ⊢
  have hl : lv_has ls 7 [(0, .ref m0), (1, .int x), (2, .int y)] := hl
  have hn6 := hm.n
  refine lv_iload_n hx hb dX5_should_0 rfl (lv_at hl 1 rfl) ?_
  refine rr_callR (va_runS (As := [.int x]) (rest := []) ⟨hx, hb, hml, hown, hts⟩ (c_X5_isRegister l x ) (va_cwS 1 hts gX5_should_X5_isRegister rfl rfl rfl (by decide +kernel) ⟨Nat.le_of_ble_eq_true rfl, Nat.le_of_ble_eq_true rfl⟩) rr_preT rfl rfl hl.1 rfl (lv_room (Nat.le_of_ble_eq_true rfl)) dX5_should_1 ⟨Nat.zero_le _, Nat.zero_le _⟩) ?_
  refine rb_if_eq (tgt := 14) hx hb dX5_should_4 (by decide) (fun c4 => ?_) (fun c4 => ?_)
  · skip
    refine lv_iconst (v := (-1)) hx hb dX5_should_14 (by decide) ?_
    exact rr_iret hx hb hr hlocks dX5_should_15 (rfl)
  refine lv_iload_n hx hb dX5_should_7 rfl (lv_at hl 2 rfl) ?_
  refine rr_callR (va_runS (As := [.int y]) (rest := []) ⟨hx, hb, hml, hown, hts⟩ (c_X5_isRegister l y ) (va_cwS 1 hts gX5_should_X5_isRegister rfl rfl rfl (by decide +kernel) ⟨Nat.le_of_ble_eq_true rfl, Nat.le_of_ble_eq_true rfl⟩) rr_preT rfl rfl hl.1 rfl (lv_room (Nat.le_of_ble_eq_true rfl)) dX5_should_8 ⟨Nat.zero_le _, Nat.zero_le _⟩) ?_
  refine rb_if_ne (tgt := 16) hx hb dX5_should_11 (by decide) (fun c11 => ?_) (fun c11 => ?_)
  · skip
    exact absurd hbad (by rw [c4, c11]; decide)
  refine lv_iconst (v := (-1)) hx hb dX5_should_14 (by decide) ?_
  exact rr_iret hx hb hr hlocks dX5_should_15 (rfl)
set_option maxHeartbeats 4000000 in
set_option maxRecDepth 100000 in
theorem c_X5_nearest_0 (l : Launch) (dC : Nat → ClassId) (dI : Nat → Nat → Nat) (cI cJ cS : ClassId) (m0 mw mt ml mz mi mr md mh : Nat) (im : Bool) (tl at0 st0 nu rm rh : Nat) (Bw : Nat → Nat) (r : Nat) (hm : mOk Bw) (hr4 : r < 4) : Met l yX5_nearest wsX5_nearest ({ frames := 2, cells := 0, slots := 0, locals := 45 }) (va_Pc [.ref m0, .int (nI r), .int (nI 0)] (rB (dC, dI) vwCl [(m0, .inr (5, [.ref mw, .int (bi im), .ref mt, .int (nI tl), .ref ml, .ref mz, .ref mi, .ref mr, .int (nI at0), .int (nI st0), .int (nI nu), .int (nI rm), .int (nI rh), .ref md, .ref mh])), (mw, .inl (cI, 480, .inl (nA Bw)))] (tyz cI cJ cS))) (QcRead (nI (nrB (Bw 0) (wdB Bw) (rwR Bw r) (rgB Bw)))) 0 0 (fun _ => False) := by
  refine Met.ofW (cc := cX5_nearest) (maxL := 9) (ret := (some .int)) (by decide) rfl ?_
  intro p e s m args below meth c s₁ B hml hv
  obtain ⟨rfl, hP, hKK⟩ := hv
  have hK := hKK.1
  have hx := B.exec
  have hb := B.bytes
  have hr := B.returns
  have hts := atoms_spec (ws := wsX5_nearest) B.pre
  have hown : s.vm.findClass RX5 = some m.cls := findClass_of_methodNamed B.named
  have hlocks := B.notSynchronized
  have hiX5 : ∀ w ∈ wsX50, w ∈ wsX5_nearest := by decide +kernel
  have hl := lv_entry ([.ref m0, .int (nI r), .int (nI 0)]) (n := 9) (Nat.le_of_ble_eq_true rfl)
  rw [lg_entry_eq]
  generalize (lg_sl ([.ref m0, .int (nI r), .int (nI 0)]) ++ List.replicate (9 - (lg_sl ([.ref m0, .int (nI r), .int (nI 0)])).length) Slot.unset).toArray = ls at hl ⊢
  have hl : lv_has ls 9 [(0, .ref m0), (1, .int (nI r)), (2, .int (nI 0))] := hl
  have hn6 := hm.n
  have hrg := rgB_b hm
  refine lv_iload_n hx hb dX5_nearest_0 rfl (lv_at hl 1 rfl) ?_
  refine rr_callR (va_runS (As := [.int (nI r)]) (rest := []) ⟨hx, hb, hml, hown, hts⟩ (c_X5_isRegister l (nI r) ) (va_cwS 1 hts gX5_nearest_X5_isRegister rfl rfl rfl (by decide +kernel) ⟨Nat.le_of_ble_eq_true rfl, Nat.le_of_ble_eq_true rfl⟩) rr_preT rfl rfl hl.1 rfl (lv_room (Nat.le_of_ble_eq_true rfl)) dX5_nearest_1 ⟨Nat.zero_le _, Nat.zero_le _⟩) ?_
  refine rr_top (y := bi true) (congrArg bi (inb_lt (by omega) (by omega))) ?_
  refine rb_if_eq (tgt := 17) hx hb dX5_nearest_4 (by decide) (fun c4 => ?_) (fun c4 => ?_)
  · exact absurd c4 (by decide)
  refine lv_iload_n hx hb dX5_nearest_7 rfl (lv_at hl 2 rfl) ?_
  refine lv_i2l hx hb dX5_nearest_8 rfl ?_
  refine lv_lconst (v := 0) hx hb dX5_nearest_9 (by decide) ?_
  refine lv_lconst (v := 1) hx hb dX5_nearest_10 (by decide) ?_
  refine rr_callR (va_runS (As := [.long ((nI 0).toInt64), .long 0, .long 1]) (rest := []) ⟨hx, hb, hml, hown, hts⟩ (c_X5_in l ((nI 0).toInt64) 0 1 ) (va_cwS 3 hts gX5_nearest_X5_in rfl rfl rfl (by decide +kernel) ⟨Nat.le_of_ble_eq_true rfl, Nat.le_of_ble_eq_true rfl⟩) rr_preT rfl rfl hl.1 rfl (lv_room (Nat.le_of_ble_eq_true rfl)) dX5_nearest_11 ⟨Nat.zero_le _, Nat.zero_le _⟩) ?_
  refine rr_top (y := bi (inb (nI 0) 2)) (congrArg bi (inL_lit (by decide))) ?_
  refine rr_top (y := bi true) (congrArg bi (inb_lt (by omega) (by omega))) ?_
  refine rb_if_ne (tgt := 19) hx hb dX5_nearest_14 (by decide) (fun c14 => ?_) (fun c14 => ?_)
  rotate_left
  · exact absurd c14 (by decide)
  refine lv_iconst (v := (nI 0)) hx hb dX5_nearest_19 (by decide) ?_
  refine lv_istore_n (lv' := [(3, .int (nI 0)), (0, .ref m0), (1, .int (nI r)), (2, .int (nI 0))]) hx hb dX5_nearest_20 rfl hl (by decide) rfl (fun ls hl => ?_)
  refine lv_ldc (v := 1000000000) hx hb hown (hts (.constant RX5 170 (1000000000)) (by decide +kernel)) dX5_nearest_21 ?_
  refine rr_top (y := nI 1000000000) (by decide) ?_
  refine lv_istore (lv' := [(4, .int (nI 1000000000)), (3, .int (nI 0)), (0, .ref m0), (1, .int (nI r)), (2, .int (nI 0))]) hx hb dX5_nearest_23 hl (by decide) rfl (fun ls hl => ?_)
  refine lv_aload_n hx hb dX5_nearest_25 rfl (lv_at hl 2 rfl) ?_
  refine rr_callR (va_runV (As := []) (rest := []) ⟨hx, hb, hml, hown, hts⟩ (c_X5_range l dC dI cI cJ cS m0 mw mt ml mz mi mr md mh im tl at0 st0 nu rm rh Bw (by first | assumption | omega)) (cwV 0 hts gX5_nearest_X5_range rfl rfl rfl (by decide +kernel) ⟨Nat.le_of_ble_eq_true rfl, Nat.le_of_ble_eq_true rfl⟩) (rr_preV hKK hP rfl rfl) rfl rfl hl.1 rfl (lv_room (Nat.le_of_ble_eq_true rfl)) dX5_nearest_26 ⟨Nat.zero_le _, Nat.zero_le _⟩) ?_
  refine lv_istore (lv' := [(5, .int (nI (rgB Bw))), (4, .int (nI 1000000000)), (3, .int (nI 0)), (0, .ref m0), (1, .int (nI r)), (2, .int (nI 0))]) hx hb dX5_nearest_29 hl (by decide) rfl (fun ls hl => ?_)
  refine lv_iconst (v := (nI 0)) hx hb dX5_nearest_31 (by decide) ?_
  refine lv_istore (lv' := [(6, .int (nI 0)), (5, .int (nI (rgB Bw))), (4, .int (nI 1000000000)), (3, .int (nI 0)), (0, .ref m0), (1, .int (nI r)), (2, .int (nI 0))]) hx hb dX5_nearest_32 hl (by decide) rfl (fun ls hl => ?_)
  refine rl1 (A1 := Nat) (fun ls => W p l e _ s m _ below meth c s.heap [] 0 0 _ (F0 m 34 ls [])) (fun v ls => v ≤ rgB Bw ∧ lv_has ls 9 [(6, .int (nI v)), (5, .int (nI (rgB Bw))), (4, .int (nI (nrC (Bw 0) (wdB Bw) (rwR Bw r) v))), (3, .int (nI (nrB (Bw 0) (wdB Bw) (rwR Bw r) v))), (0, .ref m0), (1, .int (nI r)), (2, .int (nI 0))]) (fun v => rgB Bw - v) ?_ 0 ls ⟨by omega, lv_sub hl [0, 1, 2, 3, 4, 5, 6] rfl⟩
  rintro v ls ⟨hi, hl⟩ ih34
  refine lv_iload hx hb dX5_nearest_34 (lv_at hl 0 rfl) ?_
  refine lv_iload hx hb dX5_nearest_36 (lv_at hl 1 rfl) ?_
  refine rn_icmp_ge (tgt := 141) hx hb dX5_nearest_38 (by decide) (by omega) (by omega) (fun c38 => ?_) (fun c38 => ?_)
  · skip
    refine lv_iload_n hx hb dX5_nearest_141 rfl (lv_at hl 6 rfl) ?_
    refine rn_if_ne (tgt := 149) hx hb dX5_nearest_142 (by decide) (by omega) (fun c142 => ?_) (fun c142 => ?_)
    · skip
      exact absurd rfl c142
    refine lv_iload_n hx hb dX5_nearest_145 rfl (lv_at hl 3 rfl) ?_
    refine lv_goto (tgt := 151) hx hb dX5_nearest_146 (by decide) ?_
    exact rr_iret hx hb hr hlocks dX5_nearest_151 (by rw [Nat.le_antisymm hi c38])
  refine lv_iconst (v := (nI 0)) hx hb dX5_nearest_41 (by decide) ?_
  refine lv_istore (lv' := [(7, .int (nI 0)), (6, .int (nI v)), (5, .int (nI (rgB Bw))), (4, .int (nI (nrC (Bw 0) (wdB Bw) (rwR Bw r) v))), (3, .int (nI (nrB (Bw 0) (wdB Bw) (rwR Bw r) v))), (0, .ref m0), (1, .int (nI r)), (2, .int (nI 0))]) hx hb dX5_nearest_42 hl (by decide) rfl (fun ls hl => ?_)
  refine lv_iconst (v := (nI 0)) hx hb dX5_nearest_44 (by decide) ?_
  refine lv_istore (lv' := [(8, .int (nI 0)), (7, .int (nI 0)), (6, .int (nI v)), (5, .int (nI (rgB Bw))), (4, .int (nI (nrC (Bw 0) (wdB Bw) (rwR Bw r) v))), (3, .int (nI (nrB (Bw 0) (wdB Bw) (rwR Bw r) v))), (0, .ref m0), (1, .int (nI r)), (2, .int (nI 0))]) hx hb dX5_nearest_45 hl (by decide) rfl (fun ls hl => ?_)
  refine rl1 (A1 := Nat) (fun ls => W p l e _ s m _ below meth c s.heap [] 0 0 _ (F0 m 47 ls [])) (fun k ls => k ≤ Bw 0 ∧ lv_has ls 9 [(8, .int (nI k)), (7, .int (nI (dfC (wdB Bw) (rwR Bw r) v k))), (6, .int (nI v)), (5, .int (nI (rgB Bw))), (4, .int (nI (nrC (Bw 0) (wdB Bw) (rwR Bw r) v))), (3, .int (nI (nrB (Bw 0) (wdB Bw) (rwR Bw r) v))), (0, .ref m0), (1, .int (nI r)), (2, .int (nI 0))]) (fun k => Bw 0 - k) ?_ 0 ls ⟨by omega, lv_sub hl [0, 1, 2, 3, 4, 5, 6, 7, 8] rfl⟩
  rintro k ls ⟨hk2, hl⟩ ih47
  refine lv_iload hx hb dX5_nearest_47 (lv_at hl 0 rfl) ?_
  refine lv_aload_n hx hb dX5_nearest_49 rfl (lv_at hl 6 rfl) ?_
  refine va_get (D := (dC, dI)) (ci := 5) (v := .ref mw) (C := RX5) (T := TX5) (N := 15) hx hb hts hiX5 hown hK hP 0 rfl rfl 0 (by decide) (hts (.fieldLink RX5 7 "RestRegistersModel" "w" "[I") (by decide +kernel)) (fun _ h9 => h9) rfl dX5_nearest_50 ?_
  refine lv_iconst (v := (nI 0)) hx hb dX5_nearest_53 (by decide) ?_
  refine rn_iald hx hb hK hP 1 0 rfl rfl (i := 0) (by omega) (by decide) (v := (nI (Bw 0))) rfl dX5_nearest_54 ?_
  refine rn_icmp_ge (tgt := 105) hx hb dX5_nearest_55 (by decide) (by omega) (by omega) (fun c55 => ?_) (fun c55 => ?_)
  · skip
    have ek : k = Bw 0 := Nat.le_antisymm hk2 c55
    subst ek
    have hdl := dfC_le (wdB Bw) (rwR Bw r) v (Bw 0)
    have hcl := nrC_le (Bw 0) (wdB Bw) (rwR Bw r) v
    refine lv_iload hx hb dX5_nearest_105 (lv_at hl 1 rfl) ?_
    refine lv_iload hx hb dX5_nearest_107 (lv_at hl 4 rfl) ?_
    refine rn_icmp_ge (tgt := 117) hx hb dX5_nearest_109 (by decide) (by omega) (by omega) (fun c109 => ?_) (fun c109 => ?_)
    · skip
      refine lv_iload_n hx hb dX5_nearest_117 rfl (lv_at hl 5 rfl) ?_
      refine rn_top (y := nrB (Bw 0) (wdB Bw) (rwR Bw r) (v + 1)) (by rw [nrB, if_neg (Nat.not_lt.mpr c109)]) ?_
      refine lv_istore_n (lv' := [(3, .int (nI (nrB (Bw 0) (wdB Bw) (rwR Bw r) (v + 1)))), (8, .int (nI (Bw 0))), (7, .int (nI (dfC (wdB Bw) (rwR Bw r) v (Bw 0)))), (6, .int (nI v)), (5, .int (nI (rgB Bw))), (4, .int (nI (nrC (Bw 0) (wdB Bw) (rwR Bw r) v))), (0, .ref m0), (1, .int (nI r)), (2, .int (nI 0))]) hx hb dX5_nearest_118 rfl hl (by decide) rfl (fun ls hl => ?_)
      refine lv_iload hx hb dX5_nearest_119 (lv_at hl 2 rfl) ?_
      refine lv_iload hx hb dX5_nearest_121 (lv_at hl 5 rfl) ?_
      refine rn_icmp_ge (tgt := 131) hx hb dX5_nearest_123 (by decide) (by omega) (by omega) (fun c123 => ?_) (fun c123 => ?_)
      · skip
        refine lv_iload hx hb dX5_nearest_131 (lv_at hl 5 rfl) ?_
        refine rn_top (y := nrC (Bw 0) (wdB Bw) (rwR Bw r) (v + 1)) (by rw [nrC, if_neg (Nat.not_lt.mpr c109)]) ?_
        refine lv_istore (lv' := [(4, .int (nI (nrC (Bw 0) (wdB Bw) (rwR Bw r) (v + 1)))), (3, .int (nI (nrB (Bw 0) (wdB Bw) (rwR Bw r) (v + 1)))), (8, .int (nI (Bw 0))), (7, .int (nI (dfC (wdB Bw) (rwR Bw r) v (Bw 0)))), (6, .int (nI v)), (5, .int (nI (rgB Bw))), (0, .ref m0), (1, .int (nI r)), (2, .int (nI 0))]) hx hb dX5_nearest_133 hl (by decide) rfl (fun ls hl => ?_)
        refine lv_iinc (v := (nI (v + 1))) (lv' := [(6, .int (nI (v + 1))), (4, .int (nI (nrC (Bw 0) (wdB Bw) (rwR Bw r) (v + 1)))), (3, .int (nI (nrB (Bw 0) (wdB Bw) (rwR Bw r) (v + 1)))), (8, .int (nI (Bw 0))), (7, .int (nI (dfC (wdB Bw) (rwR Bw r) v (Bw 0)))), (5, .int (nI (rgB Bw))), (0, .ref m0), (1, .int (nI r)), (2, .int (nI 0))]) hx hb dX5_nearest_135 hl (k := 4) rfl (rn_inc v 1) (by decide) rfl (fun ls hl => ?_)
        refine lv_goto (tgt := 34) hx hb dX5_nearest_138 (by decide) ?_
        exact ih34 (v + 1) ls ⟨by omega, lv_sub hl [0, 5, 1, 2, 6, 7, 8] rfl⟩ (by omega)
      exact absurd c123 (Nat.not_lt.mpr c109)
    refine lv_iload hx hb dX5_nearest_112 (lv_at hl 2 rfl) ?_
    refine lv_goto (tgt := 118) hx hb dX5_nearest_114 (by decide) ?_
    refine rn_top (y := nrB (Bw 0) (wdB Bw) (rwR Bw r) (v + 1)) (by rw [nrB, if_pos c109]) ?_
    refine lv_istore_n (lv' := [(3, .int (nI (nrB (Bw 0) (wdB Bw) (rwR Bw r) (v + 1)))), (8, .int (nI (Bw 0))), (7, .int (nI (dfC (wdB Bw) (rwR Bw r) v (Bw 0)))), (6, .int (nI v)), (5, .int (nI (rgB Bw))), (4, .int (nI (nrC (Bw 0) (wdB Bw) (rwR Bw r) v))), (0, .ref m0), (1, .int (nI r)), (2, .int (nI 0))]) hx hb dX5_nearest_118 rfl hl (by decide) rfl (fun ls hl => ?_)
    refine lv_iload hx hb dX5_nearest_119 (lv_at hl 2 rfl) ?_
    refine lv_iload hx hb dX5_nearest_121 (lv_at hl 5 rfl) ?_
    refine rn_icmp_ge (tgt := 131) hx hb dX5_nearest_123 (by decide) (by omega) (by omega) (fun c123 => ?_) (fun c123 => ?_)
    · skip
      exact absurd c109 (Nat.not_lt.mpr c123)
    refine lv_iload hx hb dX5_nearest_126 (lv_at hl 2 rfl) ?_
    refine lv_goto (tgt := 133) hx hb dX5_nearest_128 (by decide) ?_
    refine rn_top (y := nrC (Bw 0) (wdB Bw) (rwR Bw r) (v + 1)) (by rw [nrC, if_pos c109]) ?_
    refine lv_istore (lv' := [(4, .int (nI (nrC (Bw 0) (wdB Bw) (rwR Bw r) (v + 1)))), (3, .int (nI (nrB (Bw 0) (wdB Bw) (rwR Bw r) (v + 1)))), (8, .int (nI (Bw 0))), (7, .int (nI (dfC (wdB Bw) (rwR Bw r) v (Bw 0)))), (6, .int (nI v)), (5, .int (nI (rgB Bw))), (0, .ref m0), (1, .int (nI r)), (2, .int (nI 0))]) hx hb dX5_nearest_133 hl (by decide) rfl (fun ls hl => ?_)
    refine lv_iinc (v := (nI (v + 1))) (lv' := [(6, .int (nI (v + 1))), (4, .int (nI (nrC (Bw 0) (wdB Bw) (rwR Bw r) (v + 1)))), (3, .int (nI (nrB (Bw 0) (wdB Bw) (rwR Bw r) (v + 1)))), (8, .int (nI (Bw 0))), (7, .int (nI (dfC (wdB Bw) (rwR Bw r) v (Bw 0)))), (5, .int (nI (rgB Bw))), (0, .ref m0), (1, .int (nI r)), (2, .int (nI 0))]) hx hb dX5_nearest_135 hl (k := 4) rfl (rn_inc v 1) (by decide) rfl (fun ls hl => ?_)
    refine lv_goto (tgt := 34) hx hb dX5_nearest_138 (by decide) ?_
    exact ih34 (v + 1) ls ⟨by omega, lv_sub hl [0, 5, 1, 2, 6, 7, 8] rfl⟩ (by omega)
  refine lv_iload hx hb dX5_nearest_58 (lv_at hl 1 rfl) ?_
  refine lv_iload hx hb dX5_nearest_60 (lv_at hl 2 rfl) ?_
  refine lv_aload_n hx hb dX5_nearest_62 rfl (lv_at hl 6 rfl) ?_
  refine va_get (D := (dC, dI)) (ci := 5) (v := .ref mw) (C := RX5) (T := TX5) (N := 15) hx hb hts hiX5 hown hK hP 0 rfl rfl 0 (by decide) (hts (.fieldLink RX5 7 "RestRegistersModel" "w" "[I") (by decide +kernel)) (fun _ h9 => h9) rfl dX5_nearest_63 ?_
  refine lv_bipush (v := (nI 8)) hx hb dX5_nearest_66 (by decide) ?_
  refine lv_iload hx hb dX5_nearest_68 (lv_at hl 0 rfl) ?_
  refine rn_iadd hx hb dX5_nearest_70 ?_
  refine rn_iald hx hb hK hP 1 0 rfl rfl (i := 8 + k) (by omega) (by decide) (v := (nI (wdB Bw k))) rfl dX5_nearest_71 ?_
  have hv71 := hm.wd k (by omega)
  refine rn_irem hx hb dX5_nearest_72 (by omega) (by omega) (by omega) ?_
  refine lv_aload_n hx hb dX5_nearest_73 rfl (lv_at hl 6 rfl) ?_
  refine va_get (D := (dC, dI)) (ci := 5) (v := .ref mw) (C := RX5) (T := TX5) (N := 15) hx hb hts hiX5 hown hK hP 0 rfl rfl 0 (by decide) (hts (.fieldLink RX5 7 "RestRegistersModel" "w" "[I") (by decide +kernel)) (fun _ h9 => h9) rfl dX5_nearest_74 ?_
  refine lv_bipush (v := (nI 15)) hx hb dX5_nearest_77 (by decide) ?_
  refine lv_bipush (v := (nI 6)) hx hb dX5_nearest_79 (by decide) ?_
  refine lv_iload_n hx hb dX5_nearest_81 rfl (lv_at hl 7 rfl) ?_
  refine rn_imul hx hb dX5_nearest_82 ?_
  refine rn_iadd hx hb dX5_nearest_83 ?_
  refine lv_iload hx hb dX5_nearest_84 (lv_at hl 0 rfl) ?_
  refine rn_iadd hx hb dX5_nearest_86 ?_
  refine rn_iald hx hb hK hP 1 0 rfl rfl (i := 15 + (6 * r) + k) (by omega) (by decide) (v := (nI (rsB Bw (r * 6 + k)))) (rs_at _ _ _) dX5_nearest_87 ?_
  have hq2 := hm.row hr4 k (by omega)
  have hq5 := Nat.mod_lt v (show 0 < wdB Bw k by omega)
  refine rn_icmp_ne (tgt := 95) hx hb dX5_nearest_88 (by decide) (by omega) (by omega) (fun c88 => ?_) (fun c88 => ?_)
  · skip
    refine lv_iconst (v := (nI 1)) hx hb dX5_nearest_95 (by decide) ?_
    refine rn_iadd hx hb dX5_nearest_96 ?_
    refine rn_top (y := dfC (wdB Bw) (rwR Bw r) v (k + 1)) (by rw [dfC]; first | (rw [if_pos (show v % wdB Bw k = rwR Bw r k from c88)]; done) | (rw [if_neg (show ¬ v % wdB Bw k = rwR Bw r k from c88)])) ?_
    refine lv_istore (lv' := [(7, .int (nI (dfC (wdB Bw) (rwR Bw r) v (k + 1)))), (8, .int (nI k)), (6, .int (nI v)), (5, .int (nI (rgB Bw))), (4, .int (nI (nrC (Bw 0) (wdB Bw) (rwR Bw r) v))), (3, .int (nI (nrB (Bw 0) (wdB Bw) (rwR Bw r) v))), (0, .ref m0), (1, .int (nI r)), (2, .int (nI 0))]) hx hb dX5_nearest_97 hl (by decide) rfl (fun ls hl => ?_)
    refine lv_iinc (v := (nI (k + 1))) (lv' := [(8, .int (nI (k + 1))), (7, .int (nI (dfC (wdB Bw) (rwR Bw r) v (k + 1)))), (6, .int (nI v)), (5, .int (nI (rgB Bw))), (4, .int (nI (nrC (Bw 0) (wdB Bw) (rwR Bw r) v))), (3, .int (nI (nrB (Bw 0) (wdB Bw) (rwR Bw r) v))), (0, .ref m0), (1, .int (nI r)), (2, .int (nI 0))]) hx hb dX5_nearest_99 hl (k := 1) rfl (rn_inc k 1) (by decide) rfl (fun ls hl => ?_)
    refine lv_goto (tgt := 47) hx hb dX5_nearest_102 (by decide) ?_
    exact ih47 (k + 1) ls ⟨by omega, lv_sub hl [0, 1, 2, 3, 4, 5, 6, 7, 8] rfl⟩ (by omega)
  refine lv_iconst (v := (nI 0)) hx hb dX5_nearest_91 (by decide) ?_
  refine lv_goto (tgt := 96) hx hb dX5_nearest_92 (by decide) ?_
  refine rn_iadd hx hb dX5_nearest_96 ?_
  refine rn_top (y := dfC (wdB Bw) (rwR Bw r) v (k + 1)) (by rw [dfC]; first | (rw [if_pos (show v % wdB Bw k = rwR Bw r k from c88)]; done) | (rw [if_neg (show ¬ v % wdB Bw k = rwR Bw r k from c88)])) ?_
  refine lv_istore (lv' := [(7, .int (nI (dfC (wdB Bw) (rwR Bw r) v (k + 1)))), (8, .int (nI k)), (6, .int (nI v)), (5, .int (nI (rgB Bw))), (4, .int (nI (nrC (Bw 0) (wdB Bw) (rwR Bw r) v))), (3, .int (nI (nrB (Bw 0) (wdB Bw) (rwR Bw r) v))), (0, .ref m0), (1, .int (nI r)), (2, .int (nI 0))]) hx hb dX5_nearest_97 hl (by decide) rfl (fun ls hl => ?_)
  refine lv_iinc (v := (nI (k + 1))) (lv' := [(8, .int (nI (k + 1))), (7, .int (nI (dfC (wdB Bw) (rwR Bw r) v (k + 1)))), (6, .int (nI v)), (5, .int (nI (rgB Bw))), (4, .int (nI (nrC (Bw 0) (wdB Bw) (rwR Bw r) v))), (3, .int (nI (nrB (Bw 0) (wdB Bw) (rwR Bw r) v))), (0, .ref m0), (1, .int (nI r)), (2, .int (nI 0))]) hx hb dX5_nearest_99 hl (k := 1) rfl (rn_inc k 1) (by decide) rfl (fun ls hl => ?_)
  refine lv_goto (tgt := 47) hx hb dX5_nearest_102 (by decide) ?_
  exact ih47 (k + 1) ls ⟨by omega, lv_sub hl [0, 1, 2, 3, 4, 5, 6, 7, 8] rfl⟩ (by omega)
set_option maxHeartbeats 4000000 in
set_option maxRecDepth 100000 in
theorem c_X5_nearest_1 (l : Launch) (dC : Nat → ClassId) (dI : Nat → Nat → Nat) (cI cJ cS : ClassId) (m0 mw mt ml mz mi mr md mh : Nat) (im : Bool) (tl at0 st0 nu rm rh : Nat) (Bw : Nat → Nat) (r : Nat) (hm : mOk Bw) (hr4 : r < 4) : Met l yX5_nearest wsX5_nearest ({ frames := 2, cells := 0, slots := 0, locals := 45 }) (va_Pc [.ref m0, .int (nI r), .int (nI 1)] (rB (dC, dI) vwCl [(m0, .inr (5, [.ref mw, .int (bi im), .ref mt, .int (nI tl), .ref ml, .ref mz, .ref mi, .ref mr, .int (nI at0), .int (nI st0), .int (nI nu), .int (nI rm), .int (nI rh), .ref md, .ref mh])), (mw, .inl (cI, 480, .inl (nA Bw)))] (tyz cI cJ cS))) (QcRead (nI (nrC (Bw 0) (wdB Bw) (rwR Bw r) (rgB Bw)))) 0 0 (fun _ => False) := by
  refine Met.ofW (cc := cX5_nearest) (maxL := 9) (ret := (some .int)) (by decide) rfl ?_
  intro p e s m args below meth c s₁ B hml hv
  obtain ⟨rfl, hP, hKK⟩ := hv
  have hK := hKK.1
  have hx := B.exec
  have hb := B.bytes
  have hr := B.returns
  have hts := atoms_spec (ws := wsX5_nearest) B.pre
  have hown : s.vm.findClass RX5 = some m.cls := findClass_of_methodNamed B.named
  have hlocks := B.notSynchronized
  have hiX5 : ∀ w ∈ wsX50, w ∈ wsX5_nearest := by decide +kernel
  have hl := lv_entry ([.ref m0, .int (nI r), .int (nI 1)]) (n := 9) (Nat.le_of_ble_eq_true rfl)
  rw [lg_entry_eq]
  generalize (lg_sl ([.ref m0, .int (nI r), .int (nI 1)]) ++ List.replicate (9 - (lg_sl ([.ref m0, .int (nI r), .int (nI 1)])).length) Slot.unset).toArray = ls at hl ⊢
  have hl : lv_has ls 9 [(0, .ref m0), (1, .int (nI r)), (2, .int (nI 1))] := hl
  have hn6 := hm.n
  have hrg := rgB_b hm
  refine lv_iload_n hx hb dX5_nearest_0 rfl (lv_at hl 1 rfl) ?_
  refine rr_callR (va_runS (As := [.int (nI r)]) (rest := []) ⟨hx, hb, hml, hown, hts⟩ (c_X5_isRegister l (nI r) ) (va_cwS 1 hts gX5_nearest_X5_isRegister rfl rfl rfl (by decide +kernel) ⟨Nat.le_of_ble_eq_true rfl, Nat.le_of_ble_eq_true rfl⟩) rr_preT rfl rfl hl.1 rfl (lv_room (Nat.le_of_ble_eq_true rfl)) dX5_nearest_1 ⟨Nat.zero_le _, Nat.zero_le _⟩) ?_
  refine rr_top (y := bi true) (congrArg bi (inb_lt (by omega) (by omega))) ?_
  refine rb_if_eq (tgt := 17) hx hb dX5_nearest_4 (by decide) (fun c4 => ?_) (fun c4 => ?_)
  · exact absurd c4 (by decide)
  refine lv_iload_n hx hb dX5_nearest_7 rfl (lv_at hl 2 rfl) ?_
  refine lv_i2l hx hb dX5_nearest_8 rfl ?_
  refine lv_lconst (v := 0) hx hb dX5_nearest_9 (by decide) ?_
  refine lv_lconst (v := 1) hx hb dX5_nearest_10 (by decide) ?_
  refine rr_callR (va_runS (As := [.long ((nI 1).toInt64), .long 0, .long 1]) (rest := []) ⟨hx, hb, hml, hown, hts⟩ (c_X5_in l ((nI 1).toInt64) 0 1 ) (va_cwS 3 hts gX5_nearest_X5_in rfl rfl rfl (by decide +kernel) ⟨Nat.le_of_ble_eq_true rfl, Nat.le_of_ble_eq_true rfl⟩) rr_preT rfl rfl hl.1 rfl (lv_room (Nat.le_of_ble_eq_true rfl)) dX5_nearest_11 ⟨Nat.zero_le _, Nat.zero_le _⟩) ?_
  refine rr_top (y := bi (inb (nI 1) 2)) (congrArg bi (inL_lit (by decide))) ?_
  refine rr_top (y := bi true) (congrArg bi (inb_lt (by omega) (by omega))) ?_
  refine rb_if_ne (tgt := 19) hx hb dX5_nearest_14 (by decide) (fun c14 => ?_) (fun c14 => ?_)
  rotate_left
  · exact absurd c14 (by decide)
  refine lv_iconst (v := (nI 0)) hx hb dX5_nearest_19 (by decide) ?_
  refine lv_istore_n (lv' := [(3, .int (nI 0)), (0, .ref m0), (1, .int (nI r)), (2, .int (nI 1))]) hx hb dX5_nearest_20 rfl hl (by decide) rfl (fun ls hl => ?_)
  refine lv_ldc (v := 1000000000) hx hb hown (hts (.constant RX5 170 (1000000000)) (by decide +kernel)) dX5_nearest_21 ?_
  refine rr_top (y := nI 1000000000) (by decide) ?_
  refine lv_istore (lv' := [(4, .int (nI 1000000000)), (3, .int (nI 0)), (0, .ref m0), (1, .int (nI r)), (2, .int (nI 1))]) hx hb dX5_nearest_23 hl (by decide) rfl (fun ls hl => ?_)
  refine lv_aload_n hx hb dX5_nearest_25 rfl (lv_at hl 2 rfl) ?_
  refine rr_callR (va_runV (As := []) (rest := []) ⟨hx, hb, hml, hown, hts⟩ (c_X5_range l dC dI cI cJ cS m0 mw mt ml mz mi mr md mh im tl at0 st0 nu rm rh Bw (by first | assumption | omega)) (cwV 0 hts gX5_nearest_X5_range rfl rfl rfl (by decide +kernel) ⟨Nat.le_of_ble_eq_true rfl, Nat.le_of_ble_eq_true rfl⟩) (rr_preV hKK hP rfl rfl) rfl rfl hl.1 rfl (lv_room (Nat.le_of_ble_eq_true rfl)) dX5_nearest_26 ⟨Nat.zero_le _, Nat.zero_le _⟩) ?_
  refine lv_istore (lv' := [(5, .int (nI (rgB Bw))), (4, .int (nI 1000000000)), (3, .int (nI 0)), (0, .ref m0), (1, .int (nI r)), (2, .int (nI 1))]) hx hb dX5_nearest_29 hl (by decide) rfl (fun ls hl => ?_)
  refine lv_iconst (v := (nI 0)) hx hb dX5_nearest_31 (by decide) ?_
  refine lv_istore (lv' := [(6, .int (nI 0)), (5, .int (nI (rgB Bw))), (4, .int (nI 1000000000)), (3, .int (nI 0)), (0, .ref m0), (1, .int (nI r)), (2, .int (nI 1))]) hx hb dX5_nearest_32 hl (by decide) rfl (fun ls hl => ?_)
  refine rl1 (A1 := Nat) (fun ls => W p l e _ s m _ below meth c s.heap [] 0 0 _ (F0 m 34 ls [])) (fun v ls => v ≤ rgB Bw ∧ lv_has ls 9 [(6, .int (nI v)), (5, .int (nI (rgB Bw))), (4, .int (nI (nrC (Bw 0) (wdB Bw) (rwR Bw r) v))), (3, .int (nI (nrB (Bw 0) (wdB Bw) (rwR Bw r) v))), (0, .ref m0), (1, .int (nI r)), (2, .int (nI 1))]) (fun v => rgB Bw - v) ?_ 0 ls ⟨by omega, lv_sub hl [0, 1, 2, 3, 4, 5, 6] rfl⟩
  rintro v ls ⟨hi, hl⟩ ih34
  refine lv_iload hx hb dX5_nearest_34 (lv_at hl 0 rfl) ?_
  refine lv_iload hx hb dX5_nearest_36 (lv_at hl 1 rfl) ?_
  refine rn_icmp_ge (tgt := 141) hx hb dX5_nearest_38 (by decide) (by omega) (by omega) (fun c38 => ?_) (fun c38 => ?_)
  · skip
    refine lv_iload_n hx hb dX5_nearest_141 rfl (lv_at hl 6 rfl) ?_
    refine rn_if_ne (tgt := 149) hx hb dX5_nearest_142 (by decide) (by omega) (fun c142 => ?_) (fun c142 => ?_)
    · skip
      refine lv_iload hx hb dX5_nearest_149 (lv_at hl 2 rfl) ?_
      exact rr_iret hx hb hr hlocks dX5_nearest_151 (by rw [Nat.le_antisymm hi c38])
    exact absurd c142 (by decide)
  refine lv_iconst (v := (nI 0)) hx hb dX5_nearest_41 (by decide) ?_
  refine lv_istore (lv' := [(7, .int (nI 0)), (6, .int (nI v)), (5, .int (nI (rgB Bw))), (4, .int (nI (nrC (Bw 0) (wdB Bw) (rwR Bw r) v))), (3, .int (nI (nrB (Bw 0) (wdB Bw) (rwR Bw r) v))), (0, .ref m0), (1, .int (nI r)), (2, .int (nI 1))]) hx hb dX5_nearest_42 hl (by decide) rfl (fun ls hl => ?_)
  refine lv_iconst (v := (nI 0)) hx hb dX5_nearest_44 (by decide) ?_
  refine lv_istore (lv' := [(8, .int (nI 0)), (7, .int (nI 0)), (6, .int (nI v)), (5, .int (nI (rgB Bw))), (4, .int (nI (nrC (Bw 0) (wdB Bw) (rwR Bw r) v))), (3, .int (nI (nrB (Bw 0) (wdB Bw) (rwR Bw r) v))), (0, .ref m0), (1, .int (nI r)), (2, .int (nI 1))]) hx hb dX5_nearest_45 hl (by decide) rfl (fun ls hl => ?_)
  refine rl1 (A1 := Nat) (fun ls => W p l e _ s m _ below meth c s.heap [] 0 0 _ (F0 m 47 ls [])) (fun k ls => k ≤ Bw 0 ∧ lv_has ls 9 [(8, .int (nI k)), (7, .int (nI (dfC (wdB Bw) (rwR Bw r) v k))), (6, .int (nI v)), (5, .int (nI (rgB Bw))), (4, .int (nI (nrC (Bw 0) (wdB Bw) (rwR Bw r) v))), (3, .int (nI (nrB (Bw 0) (wdB Bw) (rwR Bw r) v))), (0, .ref m0), (1, .int (nI r)), (2, .int (nI 1))]) (fun k => Bw 0 - k) ?_ 0 ls ⟨by omega, lv_sub hl [0, 1, 2, 3, 4, 5, 6, 7, 8] rfl⟩
  rintro k ls ⟨hk2, hl⟩ ih47
  refine lv_iload hx hb dX5_nearest_47 (lv_at hl 0 rfl) ?_
  refine lv_aload_n hx hb dX5_nearest_49 rfl (lv_at hl 6 rfl) ?_
  refine va_get (D := (dC, dI)) (ci := 5) (v := .ref mw) (C := RX5) (T := TX5) (N := 15) hx hb hts hiX5 hown hK hP 0 rfl rfl 0 (by decide) (hts (.fieldLink RX5 7 "RestRegistersModel" "w" "[I") (by decide +kernel)) (fun _ h9 => h9) rfl dX5_nearest_50 ?_
  refine lv_iconst (v := (nI 0)) hx hb dX5_nearest_53 (by decide) ?_
  refine rn_iald hx hb hK hP 1 0 rfl rfl (i := 0) (by omega) (by decide) (v := (nI (Bw 0))) rfl dX5_nearest_54 ?_
  refine rn_icmp_ge (tgt := 105) hx hb dX5_nearest_55 (by decide) (by omega) (by omega) (fun c55 => ?_) (fun c55 => ?_)
  · skip
    have ek : k = Bw 0 := Nat.le_antisymm hk2 c55
    subst ek
    have hdl := dfC_le (wdB Bw) (rwR Bw r) v (Bw 0)
    have hcl := nrC_le (Bw 0) (wdB Bw) (rwR Bw r) v
    refine lv_iload hx hb dX5_nearest_105 (lv_at hl 1 rfl) ?_
    refine lv_iload hx hb dX5_nearest_107 (lv_at hl 4 rfl) ?_
    refine rn_icmp_ge (tgt := 117) hx hb dX5_nearest_109 (by decide) (by omega) (by omega) (fun c109 => ?_) (fun c109 => ?_)
    · skip
      refine lv_iload_n hx hb dX5_nearest_117 rfl (lv_at hl 5 rfl) ?_
      refine rn_top (y := nrB (Bw 0) (wdB Bw) (rwR Bw r) (v + 1)) (by rw [nrB, if_neg (Nat.not_lt.mpr c109)]) ?_
      refine lv_istore_n (lv' := [(3, .int (nI (nrB (Bw 0) (wdB Bw) (rwR Bw r) (v + 1)))), (8, .int (nI (Bw 0))), (7, .int (nI (dfC (wdB Bw) (rwR Bw r) v (Bw 0)))), (6, .int (nI v)), (5, .int (nI (rgB Bw))), (4, .int (nI (nrC (Bw 0) (wdB Bw) (rwR Bw r) v))), (0, .ref m0), (1, .int (nI r)), (2, .int (nI 1))]) hx hb dX5_nearest_118 rfl hl (by decide) rfl (fun ls hl => ?_)
      refine lv_iload hx hb dX5_nearest_119 (lv_at hl 2 rfl) ?_
      refine lv_iload hx hb dX5_nearest_121 (lv_at hl 5 rfl) ?_
      refine rn_icmp_ge (tgt := 131) hx hb dX5_nearest_123 (by decide) (by omega) (by omega) (fun c123 => ?_) (fun c123 => ?_)
      · skip
        refine lv_iload hx hb dX5_nearest_131 (lv_at hl 5 rfl) ?_
        refine rn_top (y := nrC (Bw 0) (wdB Bw) (rwR Bw r) (v + 1)) (by rw [nrC, if_neg (Nat.not_lt.mpr c109)]) ?_
        refine lv_istore (lv' := [(4, .int (nI (nrC (Bw 0) (wdB Bw) (rwR Bw r) (v + 1)))), (3, .int (nI (nrB (Bw 0) (wdB Bw) (rwR Bw r) (v + 1)))), (8, .int (nI (Bw 0))), (7, .int (nI (dfC (wdB Bw) (rwR Bw r) v (Bw 0)))), (6, .int (nI v)), (5, .int (nI (rgB Bw))), (0, .ref m0), (1, .int (nI r)), (2, .int (nI 1))]) hx hb dX5_nearest_133 hl (by decide) rfl (fun ls hl => ?_)
        refine lv_iinc (v := (nI (v + 1))) (lv' := [(6, .int (nI (v + 1))), (4, .int (nI (nrC (Bw 0) (wdB Bw) (rwR Bw r) (v + 1)))), (3, .int (nI (nrB (Bw 0) (wdB Bw) (rwR Bw r) (v + 1)))), (8, .int (nI (Bw 0))), (7, .int (nI (dfC (wdB Bw) (rwR Bw r) v (Bw 0)))), (5, .int (nI (rgB Bw))), (0, .ref m0), (1, .int (nI r)), (2, .int (nI 1))]) hx hb dX5_nearest_135 hl (k := 4) rfl (rn_inc v 1) (by decide) rfl (fun ls hl => ?_)
        refine lv_goto (tgt := 34) hx hb dX5_nearest_138 (by decide) ?_
        exact ih34 (v + 1) ls ⟨by omega, lv_sub hl [0, 5, 1, 2, 6, 7, 8] rfl⟩ (by omega)
      exact absurd c123 (Nat.not_lt.mpr c109)
    refine lv_iload hx hb dX5_nearest_112 (lv_at hl 2 rfl) ?_
    refine lv_goto (tgt := 118) hx hb dX5_nearest_114 (by decide) ?_
    refine rn_top (y := nrB (Bw 0) (wdB Bw) (rwR Bw r) (v + 1)) (by rw [nrB, if_pos c109]) ?_
    refine lv_istore_n (lv' := [(3, .int (nI (nrB (Bw 0) (wdB Bw) (rwR Bw r) (v + 1)))), (8, .int (nI (Bw 0))), (7, .int (nI (dfC (wdB Bw) (rwR Bw r) v (Bw 0)))), (6, .int (nI v)), (5, .int (nI (rgB Bw))), (4, .int (nI (nrC (Bw 0) (wdB Bw) (rwR Bw r) v))), (0, .ref m0), (1, .int (nI r)), (2, .int (nI 1))]) hx hb dX5_nearest_118 rfl hl (by decide) rfl (fun ls hl => ?_)
    refine lv_iload hx hb dX5_nearest_119 (lv_at hl 2 rfl) ?_
    refine lv_iload hx hb dX5_nearest_121 (lv_at hl 5 rfl) ?_
    refine rn_icmp_ge (tgt := 131) hx hb dX5_nearest_123 (by decide) (by omega) (by omega) (fun c123 => ?_) (fun c123 => ?_)
    · skip
      exact absurd c109 (Nat.not_lt.mpr c123)
    refine lv_iload hx hb dX5_nearest_126 (lv_at hl 2 rfl) ?_
    refine lv_goto (tgt := 133) hx hb dX5_nearest_128 (by decide) ?_
    refine rn_top (y := nrC (Bw 0) (wdB Bw) (rwR Bw r) (v + 1)) (by rw [nrC, if_pos c109]) ?_
    refine lv_istore (lv' := [(4, .int (nI (nrC (Bw 0) (wdB Bw) (rwR Bw r) (v + 1)))), (3, .int (nI (nrB (Bw 0) (wdB Bw) (rwR Bw r) (v + 1)))), (8, .int (nI (Bw 0))), (7, .int (nI (dfC (wdB Bw) (rwR Bw r) v (Bw 0)))), (6, .int (nI v)), (5, .int (nI (rgB Bw))), (0, .ref m0), (1, .int (nI r)), (2, .int (nI 1))]) hx hb dX5_nearest_133 hl (by decide) rfl (fun ls hl => ?_)
    refine lv_iinc (v := (nI (v + 1))) (lv' := [(6, .int (nI (v + 1))), (4, .int (nI (nrC (Bw 0) (wdB Bw) (rwR Bw r) (v + 1)))), (3, .int (nI (nrB (Bw 0) (wdB Bw) (rwR Bw r) (v + 1)))), (8, .int (nI (Bw 0))), (7, .int (nI (dfC (wdB Bw) (rwR Bw r) v (Bw 0)))), (5, .int (nI (rgB Bw))), (0, .ref m0), (1, .int (nI r)), (2, .int (nI 1))]) hx hb dX5_nearest_135 hl (k := 4) rfl (rn_inc v 1) (by decide) rfl (fun ls hl => ?_)
    refine lv_goto (tgt := 34) hx hb dX5_nearest_138 (by decide) ?_
    exact ih34 (v + 1) ls ⟨by omega, lv_sub hl [0, 5, 1, 2, 6, 7, 8] rfl⟩ (by omega)
  refine lv_iload hx hb dX5_nearest_58 (lv_at hl 1 rfl) ?_
  refine lv_iload hx hb dX5_nearest_60 (lv_at hl 2 rfl) ?_
  refine lv_aload_n hx hb dX5_nearest_62 rfl (lv_at hl 6 rfl) ?_
  refine va_get (D := (dC, dI)) (ci := 5) (v := .ref mw) (C := RX5) (T := TX5) (N := 15) hx hb hts hiX5 hown hK hP 0 rfl rfl 0 (by decide) (hts (.fieldLink RX5 7 "RestRegistersModel" "w" "[I") (by decide +kernel)) (fun _ h9 => h9) rfl dX5_nearest_63 ?_
  refine lv_bipush (v := (nI 8)) hx hb dX5_nearest_66 (by decide) ?_
  refine lv_iload hx hb dX5_nearest_68 (lv_at hl 0 rfl) ?_
  refine rn_iadd hx hb dX5_nearest_70 ?_
  refine rn_iald hx hb hK hP 1 0 rfl rfl (i := 8 + k) (by omega) (by decide) (v := (nI (wdB Bw k))) rfl dX5_nearest_71 ?_
  have hv71 := hm.wd k (by omega)
  refine rn_irem hx hb dX5_nearest_72 (by omega) (by omega) (by omega) ?_
  refine lv_aload_n hx hb dX5_nearest_73 rfl (lv_at hl 6 rfl) ?_
  refine va_get (D := (dC, dI)) (ci := 5) (v := .ref mw) (C := RX5) (T := TX5) (N := 15) hx hb hts hiX5 hown hK hP 0 rfl rfl 0 (by decide) (hts (.fieldLink RX5 7 "RestRegistersModel" "w" "[I") (by decide +kernel)) (fun _ h9 => h9) rfl dX5_nearest_74 ?_
  refine lv_bipush (v := (nI 15)) hx hb dX5_nearest_77 (by decide) ?_
  refine lv_bipush (v := (nI 6)) hx hb dX5_nearest_79 (by decide) ?_
  refine lv_iload_n hx hb dX5_nearest_81 rfl (lv_at hl 7 rfl) ?_
  refine rn_imul hx hb dX5_nearest_82 ?_
  refine rn_iadd hx hb dX5_nearest_83 ?_
  refine lv_iload hx hb dX5_nearest_84 (lv_at hl 0 rfl) ?_
  refine rn_iadd hx hb dX5_nearest_86 ?_
  refine rn_iald hx hb hK hP 1 0 rfl rfl (i := 15 + (6 * r) + k) (by omega) (by decide) (v := (nI (rsB Bw (r * 6 + k)))) (rs_at _ _ _) dX5_nearest_87 ?_
  have hq2 := hm.row hr4 k (by omega)
  have hq5 := Nat.mod_lt v (show 0 < wdB Bw k by omega)
  refine rn_icmp_ne (tgt := 95) hx hb dX5_nearest_88 (by decide) (by omega) (by omega) (fun c88 => ?_) (fun c88 => ?_)
  · skip
    refine lv_iconst (v := (nI 1)) hx hb dX5_nearest_95 (by decide) ?_
    refine rn_iadd hx hb dX5_nearest_96 ?_
    refine rn_top (y := dfC (wdB Bw) (rwR Bw r) v (k + 1)) (by rw [dfC]; first | (rw [if_pos (show v % wdB Bw k = rwR Bw r k from c88)]; done) | (rw [if_neg (show ¬ v % wdB Bw k = rwR Bw r k from c88)])) ?_
    refine lv_istore (lv' := [(7, .int (nI (dfC (wdB Bw) (rwR Bw r) v (k + 1)))), (8, .int (nI k)), (6, .int (nI v)), (5, .int (nI (rgB Bw))), (4, .int (nI (nrC (Bw 0) (wdB Bw) (rwR Bw r) v))), (3, .int (nI (nrB (Bw 0) (wdB Bw) (rwR Bw r) v))), (0, .ref m0), (1, .int (nI r)), (2, .int (nI 1))]) hx hb dX5_nearest_97 hl (by decide) rfl (fun ls hl => ?_)
    refine lv_iinc (v := (nI (k + 1))) (lv' := [(8, .int (nI (k + 1))), (7, .int (nI (dfC (wdB Bw) (rwR Bw r) v (k + 1)))), (6, .int (nI v)), (5, .int (nI (rgB Bw))), (4, .int (nI (nrC (Bw 0) (wdB Bw) (rwR Bw r) v))), (3, .int (nI (nrB (Bw 0) (wdB Bw) (rwR Bw r) v))), (0, .ref m0), (1, .int (nI r)), (2, .int (nI 1))]) hx hb dX5_nearest_99 hl (k := 1) rfl (rn_inc k 1) (by decide) rfl (fun ls hl => ?_)
    refine lv_goto (tgt := 47) hx hb dX5_nearest_102 (by decide) ?_
    exact ih47 (k + 1) ls ⟨by omega, lv_sub hl [0, 1, 2, 3, 4, 5, 6, 7, 8] rfl⟩ (by omega)
  refine lv_iconst (v := (nI 0)) hx hb dX5_nearest_91 (by decide) ?_
  refine lv_goto (tgt := 96) hx hb dX5_nearest_92 (by decide) ?_
  refine rn_iadd hx hb dX5_nearest_96 ?_
  refine rn_top (y := dfC (wdB Bw) (rwR Bw r) v (k + 1)) (by rw [dfC]; first | (rw [if_pos (show v % wdB Bw k = rwR Bw r k from c88)]; done) | (rw [if_neg (show ¬ v % wdB Bw k = rwR Bw r k from c88)])) ?_
  refine lv_istore (lv' := [(7, .int (nI (dfC (wdB Bw) (rwR Bw r) v (k + 1)))), (8, .int (nI k)), (6, .int (nI v)), (5, .int (nI (rgB Bw))), (4, .int (nI (nrC (Bw 0) (wdB Bw) (rwR Bw r) v))), (3, .int (nI (nrB (Bw 0) (wdB Bw) (rwR Bw r) v))), (0, .ref m0), (1, .int (nI r)), (2, .int (nI 1))]) hx hb dX5_nearest_97 hl (by decide) rfl (fun ls hl => ?_)
  refine lv_iinc (v := (nI (k + 1))) (lv' := [(8, .int (nI (k + 1))), (7, .int (nI (dfC (wdB Bw) (rwR Bw r) v (k + 1)))), (6, .int (nI v)), (5, .int (nI (rgB Bw))), (4, .int (nI (nrC (Bw 0) (wdB Bw) (rwR Bw r) v))), (3, .int (nI (nrB (Bw 0) (wdB Bw) (rwR Bw r) v))), (0, .ref m0), (1, .int (nI r)), (2, .int (nI 1))]) hx hb dX5_nearest_99 hl (k := 1) rfl (rn_inc k 1) (by decide) rfl (fun ls hl => ?_)
  refine lv_goto (tgt := 47) hx hb dX5_nearest_102 (by decide) ?_
  exact ih47 (k + 1) ls ⟨by omega, lv_sub hl [0, 1, 2, 3, 4, 5, 6, 7, 8] rfl⟩ (by omega)
set_option maxHeartbeats 4000000 in
set_option maxRecDepth 100000 in
theorem c_X5_nearest_b (l : Launch) (dC : Nat → ClassId) (dI : Nat → Nat → Nat) (cI cJ cS : ClassId) (m0 mw mt ml mz mi mr md mh : Nat) (im : Bool) (tl at0 st0 nu rm rh : Nat) (Bw : Nat → Nat) (x y : Int32) (hm : mOk Bw) (hbad : (inb x 4 && inb y 2) = false) : Met l yX5_nearest wsX5_nearest ({ frames := 2, cells := 0, slots := 0, locals := 45 }) (va_Pc [.ref m0, .int x, .int y] (rB (dC, dI) vwCl [(m0, .inr (5, [.ref mw, .int (bi im), .ref mt, .int (nI tl), .ref ml, .ref mz, .ref mi, .ref mr, .int (nI at0), .int (nI st0), .int (nI nu), .int (nI rm), .int (nI rh), .ref md, .ref mh])), (mw, .inl (cI, 480, .inl (nA Bw)))] (tyz cI cJ cS))) (QcRead (-1)) 0 0 (fun _ => False) := by
  refine Met.ofW (cc := cX5_nearest) (maxL := 9) (ret := (some .int)) (by decide) rfl ?_
  intro p e s m args below meth c s₁ B hml hv
  obtain ⟨rfl, hP, hKK⟩ := hv
  have hK := hKK.1
  have hx := B.exec
  have hb := B.bytes
  have hr := B.returns
  have hts := atoms_spec (ws := wsX5_nearest) B.pre
  have hown : s.vm.findClass RX5 = some m.cls := findClass_of_methodNamed B.named
  have hlocks := B.notSynchronized
  have hiX5 : ∀ w ∈ wsX50, w ∈ wsX5_nearest := by decide +kernel
  have hl := lv_entry ([.ref m0, .int x, .int y]) (n := 9) (Nat.le_of_ble_eq_true rfl)
  rw [lg_entry_eq]
  generalize (lg_sl ([.ref m0, .int x, .int y]) ++ List.replicate (9 - (lg_sl ([.ref m0, .int x, .int y])).length) Slot.unset).toArray = ls at hl ⊢
  have hl : lv_has ls 9 [(0, .ref m0), (1, .int x), (2, .int y)] := hl
  have hn6 := hm.n
  refine lv_iload_n hx hb dX5_nearest_0 rfl (lv_at hl 1 rfl) ?_
  refine rr_callR (va_runS (As := [.int x]) (rest := []) ⟨hx, hb, hml, hown, hts⟩ (c_X5_isRegister l x ) (va_cwS 1 hts gX5_nearest_X5_isRegister rfl rfl rfl (by decide +kernel) ⟨Nat.le_of_ble_eq_true rfl, Nat.le_of_ble_eq_true rfl⟩) rr_preT rfl rfl hl.1 rfl (lv_room (Nat.le_of_ble_eq_true rfl)) dX5_nearest_1 ⟨Nat.zero_le _, Nat.zero_le _⟩) ?_
  refine rb_if_eq (tgt := 17) hx hb dX5_nearest_4 (by decide) (fun c4 => ?_) (fun c4 => ?_)
  · skip
    refine lv_iconst (v := (-1)) hx hb dX5_nearest_17 (by decide) ?_
    exact rr_iret hx hb hr hlocks dX5_nearest_18 (rfl)
  refine lv_iload_n hx hb dX5_nearest_7 rfl (lv_at hl 2 rfl) ?_
  refine lv_i2l hx hb dX5_nearest_8 rfl ?_
  refine lv_lconst (v := 0) hx hb dX5_nearest_9 (by decide) ?_
  refine lv_lconst (v := 1) hx hb dX5_nearest_10 (by decide) ?_
  refine rr_callR (va_runS (As := [.long y.toInt64, .long 0, .long 1]) (rest := []) ⟨hx, hb, hml, hown, hts⟩ (c_X5_in l y.toInt64 0 1 ) (va_cwS 3 hts gX5_nearest_X5_in rfl rfl rfl (by decide +kernel) ⟨Nat.le_of_ble_eq_true rfl, Nat.le_of_ble_eq_true rfl⟩) rr_preT rfl rfl hl.1 rfl (lv_room (Nat.le_of_ble_eq_true rfl)) dX5_nearest_11 ⟨Nat.zero_le _, Nat.zero_le _⟩) ?_
  refine rr_top (y := bi (inb y 2)) (congrArg bi (inL_lit (by decide))) ?_
  refine rb_if_ne (tgt := 19) hx hb dX5_nearest_14 (by decide) (fun c14 => ?_) (fun c14 => ?_)
  · skip
    exact absurd hbad (by rw [c4, c14]; decide)
  refine lv_iconst (v := (-1)) hx hb dX5_nearest_17 (by decide) ?_
  exact rr_iret hx hb hr hlocks dX5_nearest_18 (rfl)
set_option maxHeartbeats 4000000 in
set_option maxRecDepth 100000 in
theorem c_X5_apart_g (l : Launch) (dC : Nat → ClassId) (dI : Nat → Nat → Nat) (cI cJ cS : ClassId) (m0 mw mt ml mz mi mr md mh : Nat) (im : Bool) (tl at0 st0 nu rm rh : Nat) (Bw : Nat → Nat) (hm : mOk Bw) : Met l yX5_apart wsX5_apart ({ frames := 2, cells := 0, slots := 0, locals := 43 }) (va_Pc [.ref m0] (rB (dC, dI) vwCl [(m0, .inr (5, [.ref mw, .int (bi im), .ref mt, .int (nI tl), .ref ml, .ref mz, .ref mi, .ref mr, .int (nI at0), .int (nI st0), .int (nI nu), .int (nI rm), .int (nI rh), .ref md, .ref mh])), (mw, .inl (cI, 480, .inl (nA Bw)))] (tyz cI cJ cS))) (QcRead (apI (Bw 0) (wdB Bw) (rgB Bw))) 0 0 (fun _ => False) := by
  refine Met.ofW (cc := cX5_apart) (maxL := 6) (ret := (some .int)) (by decide) rfl ?_
  intro p e s m args below meth c s₁ B hml hv
  obtain ⟨rfl, hP, hKK⟩ := hv
  have hK := hKK.1
  have hx := B.exec
  have hb := B.bytes
  have hr := B.returns
  have hts := atoms_spec (ws := wsX5_apart) B.pre
  have hown : s.vm.findClass RX5 = some m.cls := findClass_of_methodNamed B.named
  have hlocks := B.notSynchronized
  have hiX5 : ∀ w ∈ wsX50, w ∈ wsX5_apart := by decide +kernel
  have hl := lv_entry ([.ref m0]) (n := 6) (Nat.le_of_ble_eq_true rfl)
  rw [lg_entry_eq]
  generalize (lg_sl ([.ref m0]) ++ List.replicate (6 - (lg_sl ([.ref m0])).length) Slot.unset).toArray = ls at hl ⊢
  have hl : lv_has ls 6 [(0, .ref m0)] := hl
  have hn6 := hm.n
  have hrg := rgB_b hm
  refine lv_ldc (v := 1000000000) hx hb hown (hts (.constant RX5 170 (1000000000)) (by decide +kernel)) dX5_apart_0 ?_
  refine rr_top (y := nI 1000000000) (by decide) ?_
  refine lv_istore_n (lv' := [(1, .int (nI 1000000000)), (0, .ref m0)]) hx hb dX5_apart_2 rfl hl (by decide) rfl (fun ls hl => ?_)
  refine lv_aload_n hx hb dX5_apart_3 rfl (lv_at hl 1 rfl) ?_
  refine rr_callR (va_runV (As := []) (rest := []) ⟨hx, hb, hml, hown, hts⟩ (c_X5_range l dC dI cI cJ cS m0 mw mt ml mz mi mr md mh im tl at0 st0 nu rm rh Bw (by first | assumption | omega)) (cwV 0 hts gX5_apart_X5_range rfl rfl rfl (by decide +kernel) ⟨Nat.le_of_ble_eq_true rfl, Nat.le_of_ble_eq_true rfl⟩) (rr_preV hKK hP rfl rfl) rfl rfl hl.1 rfl (lv_room (Nat.le_of_ble_eq_true rfl)) dX5_apart_4 ⟨Nat.zero_le _, Nat.zero_le _⟩) ?_
  refine lv_istore_n (lv' := [(2, .int (nI (rgB Bw))), (1, .int (nI 1000000000)), (0, .ref m0)]) hx hb dX5_apart_7 rfl hl (by decide) rfl (fun ls hl => ?_)
  refine lv_iconst (v := (nI 1)) hx hb dX5_apart_8 (by decide) ?_
  refine lv_istore_n (lv' := [(3, .int (nI 1)), (2, .int (nI (rgB Bw))), (1, .int (nI 1000000000)), (0, .ref m0)]) hx hb dX5_apart_9 rfl hl (by decide) rfl (fun ls hl => ?_)
  refine rl1 (A1 := Nat) (fun ls => W p l e _ s m _ below meth c s.heap [] 0 0 _ (F0 m 10 ls [])) (fun v ls => v ≤ rgB Bw ∧ 1 ≤ v ∧ lv_has ls 6 [(3, .int (nI v)), (2, .int (nI (rgB Bw))), (1, .int (nI (apC (Bw 0) (wdB Bw) v))), (0, .ref m0)]) (fun v => rgB Bw - v) ?_ 1 ls ⟨by omega, by omega, lv_sub hl [0, 1, 2, 3] rfl⟩
  rintro v ls ⟨hi, h1v, hl⟩ ih10
  refine lv_iload_n hx hb dX5_apart_10 rfl (lv_at hl 0 rfl) ?_
  refine lv_iload_n hx hb dX5_apart_11 rfl (lv_at hl 1 rfl) ?_
  refine rn_icmp_ge (tgt := 82) hx hb dX5_apart_12 (by decide) (by omega) (by omega) (fun c12 => ?_) (fun c12 => ?_)
  · skip
    have ev : v = rgB Bw := Nat.le_antisymm hi c12
    have hcl := apC_le (Bw 0) (wdB Bw) v
    refine lv_iload_n hx hb dX5_apart_82 rfl (lv_at hl 2 rfl) ?_
    refine lv_ldc (v := 1000000000) hx hb hown (hts (.constant RX5 170 (1000000000)) (by decide +kernel)) dX5_apart_83 ?_
    refine rr_top (y := nI 1000000000) (by decide) ?_
    refine rn_icmp_ne (tgt := 93) hx hb dX5_apart_85 (by decide) (by omega) (by omega) (fun c85 => ?_) (fun c85 => ?_)
    · skip
      refine lv_iload_n hx hb dX5_apart_93 rfl (lv_at hl 2 rfl) ?_
      exact rr_iret hx hb hr hlocks dX5_apart_94 (by rw [← ev]; unfold apI; first | (rw [if_pos c85]; done) | (rw [if_neg c85]))
    refine lv_bipush (v := (-4)) hx hb dX5_apart_88 (by decide) ?_
    refine lv_goto (tgt := 94) hx hb dX5_apart_90 (by decide) ?_
    exact rr_iret hx hb hr hlocks dX5_apart_94 (by rw [← ev]; unfold apI; first | (rw [if_pos c85]; done) | (rw [if_neg c85]))
  refine lv_iconst (v := (nI 0)) hx hb dX5_apart_15 (by decide) ?_
  refine lv_istore (lv' := [(4, .int (nI 0)), (3, .int (nI v)), (2, .int (nI (rgB Bw))), (1, .int (nI (apC (Bw 0) (wdB Bw) v))), (0, .ref m0)]) hx hb dX5_apart_16 hl (by decide) rfl (fun ls hl => ?_)
  refine lv_iconst (v := (nI 0)) hx hb dX5_apart_18 (by decide) ?_
  refine lv_istore (lv' := [(5, .int (nI 0)), (4, .int (nI 0)), (3, .int (nI v)), (2, .int (nI (rgB Bw))), (1, .int (nI (apC (Bw 0) (wdB Bw) v))), (0, .ref m0)]) hx hb dX5_apart_19 hl (by decide) rfl (fun ls hl => ?_)
  refine rl1 (A1 := Nat) (fun ls => W p l e _ s m _ below meth c s.heap [] 0 0 _ (F0 m 21 ls [])) (fun k ls => k ≤ Bw 0 ∧ lv_has ls 6 [(5, .int (nI k)), (4, .int (nI (dfC (wdB Bw) (fun _ => 0) v k))), (3, .int (nI v)), (2, .int (nI (rgB Bw))), (1, .int (nI (apC (Bw 0) (wdB Bw) v))), (0, .ref m0)]) (fun k => Bw 0 - k) ?_ 0 ls ⟨by omega, lv_sub hl [0, 1, 2, 3, 4, 5] rfl⟩
  rintro k ls ⟨hk2, hl⟩ ih21
  refine lv_iload hx hb dX5_apart_21 (lv_at hl 0 rfl) ?_
  refine lv_aload_n hx hb dX5_apart_23 rfl (lv_at hl 5 rfl) ?_
  refine va_get (D := (dC, dI)) (ci := 5) (v := .ref mw) (C := RX5) (T := TX5) (N := 15) hx hb hts hiX5 hown hK hP 0 rfl rfl 0 (by decide) (hts (.fieldLink RX5 7 "RestRegistersModel" "w" "[I") (by decide +kernel)) (fun _ h9 => h9) rfl dX5_apart_24 ?_
  refine lv_iconst (v := (nI 0)) hx hb dX5_apart_27 (by decide) ?_
  refine rn_iald hx hb hK hP 1 0 rfl rfl (i := 0) (by omega) (by decide) (v := (nI (Bw 0))) rfl dX5_apart_28 ?_
  refine rn_icmp_ge (tgt := 63) hx hb dX5_apart_29 (by decide) (by omega) (by omega) (fun c29 => ?_) (fun c29 => ?_)
  · skip
    have ek : k = Bw 0 := Nat.le_antisymm hk2 c29
    subst ek
    have hdl := dfC_le (wdB Bw) (fun _ => 0) v (Bw 0)
    have hcl := apC_le (Bw 0) (wdB Bw) v
    refine lv_iload hx hb dX5_apart_63 (lv_at hl 1 rfl) ?_
    refine lv_iload_n hx hb dX5_apart_65 rfl (lv_at hl 4 rfl) ?_
    refine rn_icmp_ge (tgt := 74) hx hb dX5_apart_66 (by decide) (by omega) (by omega) (fun c66 => ?_) (fun c66 => ?_)
    · skip
      refine lv_iload_n hx hb dX5_apart_74 rfl (lv_at hl 4 rfl) ?_
      refine rn_top (y := apC (Bw 0) (wdB Bw) (v + 1)) (by rw [apC, if_neg (by omega)]; first | (rw [if_pos c66]; done) | (rw [if_neg (Nat.not_lt.mpr c66)])) ?_
      refine lv_istore_n (lv' := [(1, .int (nI (apC (Bw 0) (wdB Bw) (v + 1)))), (5, .int (nI (Bw 0))), (4, .int (nI (dfC (wdB Bw) (fun _ => 0) v (Bw 0)))), (3, .int (nI v)), (2, .int (nI (rgB Bw))), (0, .ref m0)]) hx hb dX5_apart_75 rfl hl (by decide) rfl (fun ls hl => ?_)
      refine lv_iinc (v := (nI (v + 1))) (lv' := [(3, .int (nI (v + 1))), (1, .int (nI (apC (Bw 0) (wdB Bw) (v + 1)))), (5, .int (nI (Bw 0))), (4, .int (nI (dfC (wdB Bw) (fun _ => 0) v (Bw 0)))), (2, .int (nI (rgB Bw))), (0, .ref m0)]) hx hb dX5_apart_76 hl (k := 3) rfl (rn_inc v 1) (by decide) rfl (fun ls hl => ?_)
      refine lv_goto (tgt := 10) hx hb dX5_apart_79 (by decide) ?_
      exact ih10 (v + 1) ls ⟨by omega, by omega, lv_sub hl [0, 4, 1, 5] rfl⟩ (by omega)
    refine lv_iload hx hb dX5_apart_69 (lv_at hl 1 rfl) ?_
    refine lv_goto (tgt := 75) hx hb dX5_apart_71 (by decide) ?_
    refine rn_top (y := apC (Bw 0) (wdB Bw) (v + 1)) (by rw [apC, if_neg (by omega)]; first | (rw [if_pos c66]; done) | (rw [if_neg (Nat.not_lt.mpr c66)])) ?_
    refine lv_istore_n (lv' := [(1, .int (nI (apC (Bw 0) (wdB Bw) (v + 1)))), (5, .int (nI (Bw 0))), (4, .int (nI (dfC (wdB Bw) (fun _ => 0) v (Bw 0)))), (3, .int (nI v)), (2, .int (nI (rgB Bw))), (0, .ref m0)]) hx hb dX5_apart_75 rfl hl (by decide) rfl (fun ls hl => ?_)
    refine lv_iinc (v := (nI (v + 1))) (lv' := [(3, .int (nI (v + 1))), (1, .int (nI (apC (Bw 0) (wdB Bw) (v + 1)))), (5, .int (nI (Bw 0))), (4, .int (nI (dfC (wdB Bw) (fun _ => 0) v (Bw 0)))), (2, .int (nI (rgB Bw))), (0, .ref m0)]) hx hb dX5_apart_76 hl (k := 3) rfl (rn_inc v 1) (by decide) rfl (fun ls hl => ?_)
    refine lv_goto (tgt := 10) hx hb dX5_apart_79 (by decide) ?_
    exact ih10 (v + 1) ls ⟨by omega, by omega, lv_sub hl [0, 4, 1, 5] rfl⟩ (by omega)
  refine lv_iload hx hb dX5_apart_32 (lv_at hl 1 rfl) ?_
  refine lv_iload_n hx hb dX5_apart_34 rfl (lv_at hl 2 rfl) ?_
  refine lv_aload_n hx hb dX5_apart_35 rfl (lv_at hl 5 rfl) ?_
  refine va_get (D := (dC, dI)) (ci := 5) (v := .ref mw) (C := RX5) (T := TX5) (N := 15) hx hb hts hiX5 hown hK hP 0 rfl rfl 0 (by decide) (hts (.fieldLink RX5 7 "RestRegistersModel" "w" "[I") (by decide +kernel)) (fun _ h9 => h9) rfl dX5_apart_36 ?_
  refine lv_bipush (v := (nI 8)) hx hb dX5_apart_39 (by decide) ?_
  refine lv_iload hx hb dX5_apart_41 (lv_at hl 0 rfl) ?_
  refine rn_iadd hx hb dX5_apart_43 ?_
  refine rn_iald hx hb hK hP 1 0 rfl rfl (i := 8 + k) (by omega) (by decide) (v := (nI (wdB Bw k))) rfl dX5_apart_44 ?_
  have hv44 := hm.wd k (by omega)
  refine rn_irem hx hb dX5_apart_45 (by omega) (by omega) (by omega) ?_
  have hq5 := Nat.mod_lt v (show 0 < wdB Bw k by omega)
  refine rn_if_ne (tgt := 53) hx hb dX5_apart_46 (by decide) (by omega) (fun c46 => ?_) (fun c46 => ?_)
  · skip
    refine lv_iconst (v := (nI 1)) hx hb dX5_apart_53 (by decide) ?_
    refine rn_iadd hx hb dX5_apart_54 ?_
    refine rn_top (y := dfC (wdB Bw) (fun _ => 0) v (k + 1)) (by rw [dfC]; first | (rw [if_pos c46]; done) | (rw [if_neg c46])) ?_
    refine lv_istore (lv' := [(4, .int (nI (dfC (wdB Bw) (fun _ => 0) v (k + 1)))), (5, .int (nI k)), (3, .int (nI v)), (2, .int (nI (rgB Bw))), (1, .int (nI (apC (Bw 0) (wdB Bw) v))), (0, .ref m0)]) hx hb dX5_apart_55 hl (by decide) rfl (fun ls hl => ?_)
    refine lv_iinc (v := (nI (k + 1))) (lv' := [(5, .int (nI (k + 1))), (4, .int (nI (dfC (wdB Bw) (fun _ => 0) v (k + 1)))), (3, .int (nI v)), (2, .int (nI (rgB Bw))), (1, .int (nI (apC (Bw 0) (wdB Bw) v))), (0, .ref m0)]) hx hb dX5_apart_57 hl (k := 1) rfl (rn_inc k 1) (by decide) rfl (fun ls hl => ?_)
    refine lv_goto (tgt := 21) hx hb dX5_apart_60 (by decide) ?_
    exact ih21 (k + 1) ls ⟨by omega, lv_sub hl [0, 1, 2, 3, 4, 5] rfl⟩ (by omega)
  refine lv_iconst (v := (nI 0)) hx hb dX5_apart_49 (by decide) ?_
  refine lv_goto (tgt := 54) hx hb dX5_apart_50 (by decide) ?_
  refine rn_iadd hx hb dX5_apart_54 ?_
  refine rn_top (y := dfC (wdB Bw) (fun _ => 0) v (k + 1)) (by rw [dfC]; first | (rw [if_pos c46]; done) | (rw [if_neg c46])) ?_
  refine lv_istore (lv' := [(4, .int (nI (dfC (wdB Bw) (fun _ => 0) v (k + 1)))), (5, .int (nI k)), (3, .int (nI v)), (2, .int (nI (rgB Bw))), (1, .int (nI (apC (Bw 0) (wdB Bw) v))), (0, .ref m0)]) hx hb dX5_apart_55 hl (by decide) rfl (fun ls hl => ?_)
  refine lv_iinc (v := (nI (k + 1))) (lv' := [(5, .int (nI (k + 1))), (4, .int (nI (dfC (wdB Bw) (fun _ => 0) v (k + 1)))), (3, .int (nI v)), (2, .int (nI (rgB Bw))), (1, .int (nI (apC (Bw 0) (wdB Bw) v))), (0, .ref m0)]) hx hb dX5_apart_57 hl (k := 1) rfl (rn_inc k 1) (by decide) rfl (fun ls hl => ?_)
  refine lv_goto (tgt := 21) hx hb dX5_apart_60 (by decide) ?_
  exact ih21 (k + 1) ls ⟨by omega, lv_sub hl [0, 1, 2, 3, 4, 5] rfl⟩ (by omega)
set_option maxHeartbeats 4000000 in
set_option maxRecDepth 100000 in
theorem c_X5_blame_g (l : Launch) (dC : Nat → ClassId) (dI : Nat → Nat → Nat) (cI cJ cS : ClassId) (sz : Nat) (m0 mw mt ml mz mi mr md mh : Nat) (im : Bool) (tl at0 st0 nu rm rh : Nat) (Bw Rs : Nat → Nat) (r : Nat) (hm : mOk Bw) (hr4 : r < 4) : Met l yX5_blame wsX5_blame ({ frames := 3, cells := 0, slots := 0, locals := 65 }) (va_Pc [.ref m0, .int (nI r)] (rW (dC, dI) vwCl [(m0, .inr (5, [.ref mw, .int (bi im), .ref mt, .int (nI tl), .ref ml, .ref mz, .ref mi, .ref mr, .int (nI at0), .int (nI st0), .int (nI nu), .int (nI rm), .int (nI rh), .ref md, .ref mh])), (mw, .inl (cI, 480, .inl (nA Bw))), (mr, .inl (cI, 6, .inl (nA Rs)))] (tyz cI cJ cS) sz)) (qIs (nI (if VB Bw r < rgB Bw then 0 else blS (Bw 0) (wdB Bw) (rwR Bw r) (rgB Bw) (Bw 0))) (dC, dI) vwCl (fun Rq => [(m0, .inr (5, [.ref mw, .int (bi im), .ref mt, .int (nI tl), .ref ml, .ref mz, .ref mi, .ref mr, .int (nI at0), .int (nI st0), .int (nI nu), .int (nI rm), .int (nI rh), .ref md, .ref mh])), (mw, .inl (cI, 480, .inl (nA Bw))), (mr, .inl (cI, 6, .inl (nA Rq)))]) (va_A [(m0, .inr (5, [.ref mw, .int (bi im), .ref mt, .int (nI tl), .ref ml, .ref mz, .ref mi, .ref mr, .int (nI at0), .int (nI st0), .int (nI nu), .int (nI rm), .int (nI rh), .ref md, .ref mh])), (mw, .inl (cI, 480, .inl (nA Bw))), (mr, .inl (cI, 6, .inl (nA Rs)))] sz)) 0 0 (va_A [(m0, .inr (5, [.ref mw, .int (bi im), .ref mt, .int (nI tl), .ref ml, .ref mz, .ref mi, .ref mr, .int (nI at0), .int (nI st0), .int (nI nu), .int (nI rm), .int (nI rh), .ref md, .ref mh])), (mw, .inl (cI, 480, .inl (nA Bw))), (mr, .inl (cI, 6, .inl (nA Rs)))] sz) := by
  refine Met.ofW (cc := cX5_blame) (maxL := 7) (ret := (some .int)) (by decide) rfl ?_
  intro p e s m args below meth c s₁ B hml hv
  obtain ⟨rfl, hsz, hP, hKK, hD0⟩ := hv
  have hK := hKK.1
  have hx := B.exec
  have hb := B.bytes
  have hr := B.returns
  have hts := atoms_spec (ws := wsX5_blame) B.pre
  have hown : s.vm.findClass RX5 = some m.cls := findClass_of_methodNamed B.named
  have hlocks := B.notSynchronized
  subst hsz
  have hD := hD0.self (sz := s.heap.size)
  generalize hAe : va_A [(m0, .inr (5, [.ref mw, .int (bi im), .ref mt, .int (nI tl), .ref ml, .ref mz, .ref mi, .ref mr, .int (nI at0), .int (nI st0), .int (nI nu), .int (nI rm), .int (nI rh), .ref md, .ref mh])), (mw, .inl (cI, 480, .inl (nA Bw))), (mr, .inl (cI, 6, .inl (nA Rs)))] s.heap.size = A at hD ⊢
  have hA : ∀ q : Nat, s.heap.size ≤ q → A q := fun q h => by rw [← hAe]; exact Or.inr h
  have hS : va_S A s.heap s.heap [] := va_S.rf
  have hP : va_P (dC, dI) vwCl [(m0, .inr (5, [.ref mw, .int (bi im), .ref mt, .int (nI tl), .ref ml, .ref mz, .ref mi, .ref mr, .int (nI at0), .int (nI st0), .int (nI nu), .int (nI rm), .int (nI rh), .ref md, .ref mh])), (mw, .inl (cI, 480, .inl (nA Bw))), (mr, .inl (cI, 6, .inl (nA Rs)))] s.heap := hP
  have hiX5 : ∀ w ∈ wsX50, w ∈ wsX5_blame := by decide +kernel
  have hl := lv_entry ([.ref m0, .int (nI r)]) (n := 7) (Nat.le_of_ble_eq_true rfl)
  rw [lg_entry_eq]
  generalize (lg_sl ([.ref m0, .int (nI r)]) ++ List.replicate (7 - (lg_sl ([.ref m0, .int (nI r)])).length) Slot.unset).toArray = ls at hl ⊢
  have hl : lv_has ls 7 [(0, .ref m0), (1, .int (nI r))] := hl
  have hn6 := hm.n
  have hrg := rgB_b hm
  refine lv_iload_n hx hb dX5_blame_0 rfl (lv_at hl 1 rfl) ?_
  refine rr_callR (va_runS (As := [.int (nI r)]) (rest := []) ⟨hx, hb, hml, hown, hts⟩ (c_X5_isRegister l (nI r) ) (va_cwS 1 hts gX5_blame_X5_isRegister rfl rfl rfl (by decide +kernel) ⟨Nat.le_of_ble_eq_true rfl, Nat.le_of_ble_eq_true rfl⟩) rr_preT rfl rfl hl.1 rfl (lv_room (Nat.le_of_ble_eq_true rfl)) dX5_blame_1 ⟨Nat.zero_le _, Nat.zero_le _⟩) ?_
  refine rr_top (y := bi true) (congrArg bi (inb_lt (by omega) (by omega))) ?_
  refine rb_if_ne (tgt := 9) hx hb dX5_blame_4 (by decide) (fun c4 => ?_) (fun c4 => ?_)
  rotate_left
  · exact absurd c4 (by decide)
  refine lv_aload_n hx hb dX5_blame_9 rfl (lv_at hl 0 rfl) ?_
  refine lv_iload_n hx hb dX5_blame_10 rfl (lv_at hl 1 rfl) ?_
  refine rw_calli (va_runV (As := [.int (nI r)]) (rest := []) ⟨hx, hb, hml, hown, hts⟩ (c_X5_isLegal l dC dI cI cJ cS _ m0 mw mt ml mz mi mr md mh im tl at0 st0 nu rm rh Bw Rs r (by first | assumption | omega) (by first | assumption | omega)) (cwV 1 hts gX5_blame_X5_isLegal rfl rfl rfl (by decide +kernel) ⟨Nat.le_of_ble_eq_true rfl, Nat.le_of_ble_eq_true rfl⟩) (rw_preV hKK hP hD rfl rfl) rfl rfl hl.1 rfl (lv_room (Nat.le_of_ble_eq_true rfl)) dX5_blame_11 ⟨Nat.zero_le _, Nat.zero_le _⟩) (wr := []) hP hD hS hA [0, 1, 2] [] rfl rfl (by decide) (by decide) (fun H locs hP hD hS => ?_)
  have hP : va_P (dC, dI) vwCl [(m0, .inr (5, [.ref mw, .int (bi im), .ref mt, .int (nI tl), .ref ml, .ref mz, .ref mi, .ref mr, .int (nI at0), .int (nI st0), .int (nI nu), .int (nI rm), .int (nI rh), .ref md, .ref mh])), (mw, .inl (cI, 480, .inl (nA Bw))), (mr, .inl (cI, 6, .inl (nA (lkN Bw r 6 Rs))))] H := hP.sub [0, 1, 2] rfl
  have hD : va_D A [(m0, .inr (5, [.ref mw, .int (bi im), .ref mt, .int (nI tl), .ref ml, .ref mz, .ref mi, .ref mr, .int (nI at0), .int (nI st0), .int (nI nu), .int (nI rm), .int (nI rh), .ref md, .ref mh])), (mw, .inl (cI, 480, .inl (nA Bw))), (mr, .inl (cI, 6, .inl (nA (lkN Bw r 6 Rs))))] := hD.sub [0, 1, 2] (by decide) rfl
  refine rb_if_eq (tgt := 19) hx hb dX5_blame_14 (by decide) (fun c14 => ?_) (fun c14 => ?_)
  · skip
    refine lv_iconst (v := (nI 0)) hx hb dX5_blame_19 (by decide) ?_
    refine lv_istore_n (lv' := [(2, .int (nI 0)), (0, .ref m0), (1, .int (nI r))]) hx hb dX5_blame_20 rfl hl (by decide) rfl (fun ls hl => ?_)
    refine lv_aload_n hx hb dX5_blame_21 rfl (lv_at hl 1 rfl) ?_
    refine rr_callR (va_runV (As := []) (rest := []) ⟨hx, hb, hml, hown, hts⟩ (c_X5_range l dC dI cI cJ cS m0 mw mt ml mz mi mr md mh im tl at0 st0 nu rm rh Bw (by first | assumption | omega)) (cwV 0 hts gX5_blame_X5_range rfl rfl rfl (by decide +kernel) ⟨Nat.le_of_ble_eq_true rfl, Nat.le_of_ble_eq_true rfl⟩) (rr_preV hKK (hP.sub [0, 1] rfl) rfl rfl) rfl rfl hl.1 rfl (lv_room (Nat.le_of_ble_eq_true rfl)) dX5_blame_22 ⟨Nat.zero_le _, Nat.zero_le _⟩) ?_
    refine lv_istore_n (lv' := [(3, .int (nI (rgB Bw))), (2, .int (nI 0)), (0, .ref m0), (1, .int (nI r))]) hx hb dX5_blame_25 rfl hl (by decide) rfl (fun ls hl => ?_)
    refine lv_iconst (v := (nI 0)) hx hb dX5_blame_26 (by decide) ?_
    refine lv_istore (lv' := [(4, .int (nI 0)), (3, .int (nI (rgB Bw))), (2, .int (nI 0)), (0, .ref m0), (1, .int (nI r))]) hx hb dX5_blame_27 hl (by decide) rfl (fun ls hl => ?_)
    refine rlW2 (A1 := Nat) (A2 := Nat → Nat) (fun H locs ls => W p l e _ s m _ below meth c H locs 0 0 _ (F0 m 29 ls [])) (fun k Ra H locs ls => k ≤ Bw 0 ∧ va_P (dC, dI) vwCl [(m0, .inr (5, [.ref mw, .int (bi im), .ref mt, .int (nI tl), .ref ml, .ref mz, .ref mi, .ref mr, .int (nI at0), .int (nI st0), .int (nI nu), .int (nI rm), .int (nI rh), .ref md, .ref mh])), (mw, .inl (cI, 480, .inl (nA Bw))), (mr, .inl (cI, 6, .inl (nA Ra)))] H ∧ va_D A [(m0, .inr (5, [.ref mw, .int (bi im), .ref mt, .int (nI tl), .ref ml, .ref mz, .ref mi, .ref mr, .int (nI at0), .int (nI st0), .int (nI nu), .int (nI rm), .int (nI rh), .ref md, .ref mh])), (mw, .inl (cI, 480, .inl (nA Bw))), (mr, .inl (cI, 6, .inl (nA Ra)))] ∧ va_S A s.heap H locs ∧ lv_has ls 7 [(4, .int (nI k)), (3, .int (nI (rgB Bw))), (2, .int (nI (blS (Bw 0) (wdB Bw) (rwR Bw r) (rgB Bw) k))), (0, .ref m0), (1, .int (nI r))]) (fun k Ra => Bw 0 - k) ?_ 0 (lkN Bw r 6 Rs) H locs ls ⟨by omega, hP, hD, hS, lv_sub hl [0, 1, 2, 3, 4] rfl⟩
    rintro k Ra H locs ls ⟨hi, hP, hD, hS, hl⟩ ih29
    refine lv_iload hx hb dX5_blame_29 (lv_at hl 0 rfl) ?_
    refine lv_aload_n hx hb dX5_blame_31 rfl (lv_at hl 3 rfl) ?_
    refine va_get (D := (dC, dI)) (ci := 5) (v := .ref mw) (C := RX5) (T := TX5) (N := 15) hx hb hts hiX5 hown hK hP 0 rfl rfl 0 (by decide) (hts (.fieldLink RX5 7 "RestRegistersModel" "w" "[I") (by decide +kernel)) (fun _ h9 => h9) rfl dX5_blame_32 ?_
    refine lv_iconst (v := (nI 0)) hx hb dX5_blame_35 (by decide) ?_
    refine rn_iald hx hb hK hP 1 0 rfl rfl (i := 0) (by omega) (by decide) (v := (nI (Bw 0))) rfl dX5_blame_36 ?_
    refine rn_icmp_ge (tgt := 119) hx hb dX5_blame_37 (by decide) (by omega) (by omega) (fun c37 => ?_) (fun c37 => ?_)
    · skip
      refine lv_iload_n hx hb dX5_blame_119 rfl (lv_at hl 2 rfl) ?_
      exact rr_iretWs (u := Ra) hx hb hr hlocks dX5_blame_120 hP hD hS (by rw [if_neg (of_decide_eq_false c14), Nat.le_antisymm hi c37])
    refine lv_aload_n hx hb dX5_blame_40 rfl (lv_at hl 3 rfl) ?_
    refine lv_iload_n hx hb dX5_blame_41 rfl (lv_at hl 4 rfl) ?_
    refine rw_callv (va_runV (As := [.int (nI r)]) (rest := []) ⟨hx, hb, hml, hown, hts⟩ (c_X5_looks l dC dI cI cJ cS _ m0 mw mt ml mz mi mr md mh im tl at0 st0 nu rm rh Bw Ra r (by first | assumption | omega)) (cwV 1 hts gX5_blame_X5_looks rfl rfl rfl (by decide +kernel) ⟨Nat.le_of_ble_eq_true rfl, Nat.le_of_ble_eq_true rfl⟩) (rw_preV hKK hP hD rfl rfl) rfl rfl hl.1 rfl (lv_room (Nat.le_of_ble_eq_true rfl)) dX5_blame_42 ⟨Nat.zero_le _, Nat.zero_le _⟩) (wr := []) hP hD hS hA [0, 1, 2] [] rfl rfl (by decide) (by decide) (fun H locs hP hD hS => ?_)
    have hP : va_P (dC, dI) vwCl [(m0, .inr (5, [.ref mw, .int (bi im), .ref mt, .int (nI tl), .ref ml, .ref mz, .ref mi, .ref mr, .int (nI at0), .int (nI st0), .int (nI nu), .int (nI rm), .int (nI rh), .ref md, .ref mh])), (mw, .inl (cI, 480, .inl (nA Bw))), (mr, .inl (cI, 6, .inl (nA (lkN Bw r 6 Ra))))] H := hP.sub [0, 1, 2] rfl
    have hD : va_D A [(m0, .inr (5, [.ref mw, .int (bi im), .ref mt, .int (nI tl), .ref ml, .ref mz, .ref mi, .ref mr, .int (nI at0), .int (nI st0), .int (nI nu), .int (nI rm), .int (nI rh), .ref md, .ref mh])), (mw, .inl (cI, 480, .inl (nA Bw))), (mr, .inl (cI, 6, .inl (nA (lkN Bw r 6 Ra))))] := hD.sub [0, 1, 2] (by decide) rfl
    refine lv_aload_n hx hb dX5_blame_45 rfl (lv_at hl 3 rfl) ?_
    refine va_get (D := (dC, dI)) (ci := 5) (v := .ref mr) (C := RX5) (T := TX5) (N := 15) hx hb hts hiX5 hown hK hP 0 rfl rfl 7 (by decide) (hts (.fieldLink RX5 26 "RestRegistersModel" "rests" "[I") (by decide +kernel)) (fun _ h9 => h9) rfl dX5_blame_46 ?_
    refine lv_iload hx hb dX5_blame_49 (lv_at hl 0 rfl) ?_
    refine rn_iald hx hb hK hP 2 0 rfl rfl (i := k) (by omega) (by decide) (v := (nI ((lkN Bw r 6 Ra) k))) rfl dX5_blame_51 ?_
    refine rn_top (y := rwR Bw r k) (lk_at (by omega)) ?_
    have hrw := hm.row hr4 k (by omega)
    refine lv_istore (lv' := [(5, .int (nI (rwR Bw r k))), (4, .int (nI k)), (3, .int (nI (rgB Bw))), (2, .int (nI (blS (Bw 0) (wdB Bw) (rwR Bw r) (rgB Bw) k))), (0, .ref m0), (1, .int (nI r))]) hx hb dX5_blame_52 hl (by decide) rfl (fun ls hl => ?_)
    refine lv_iconst (v := (nI 0)) hx hb dX5_blame_54 (by decide) ?_
    refine lv_istore (lv' := [(6, .int (nI 0)), (5, .int (nI (rwR Bw r k))), (4, .int (nI k)), (3, .int (nI (rgB Bw))), (2, .int (nI (blS (Bw 0) (wdB Bw) (rwR Bw r) (rgB Bw) k))), (0, .ref m0), (1, .int (nI r))]) hx hb dX5_blame_55 hl (by decide) rfl (fun ls hl => ?_)
    have hw9 := hm.wd k (by omega)
    have hl : lv_has ls 7 [(6, .int (nI 0)), (5, .int (nI (rwR Bw r k))), (4, .int (nI k)), (3, .int (nI (rgB Bw))), (2, .int (nI (blS (Bw 0) (wdB Bw) (rwR Bw r) (rgB Bw) k ||| (if blI (Bw 0) (wdB Bw) (rwR Bw r) (rgB Bw) k 0 then 2 ^ k else 0)))), (0, .ref m0), (1, .int (nI r))] := by rw [show blI (Bw 0) (wdB Bw) (rwR Bw r) (rgB Bw) k 0 = false from rfl]; simpa using hl
    refine rlW2 (A1 := Nat) (A2 := Nat → Nat) (fun H locs ls => W p l e _ s m _ below meth c H locs 0 0 _ (F0 m 57 ls [])) (fun v Rz H locs ls => v ≤ wdB Bw k ∧ (∀ j, j < Bw 0 → j ≠ k → Rz j = rwR Bw r j) ∧ va_P (dC, dI) vwCl [(m0, .inr (5, [.ref mw, .int (bi im), .ref mt, .int (nI tl), .ref ml, .ref mz, .ref mi, .ref mr, .int (nI at0), .int (nI st0), .int (nI nu), .int (nI rm), .int (nI rh), .ref md, .ref mh])), (mw, .inl (cI, 480, .inl (nA Bw))), (mr, .inl (cI, 6, .inl (nA Rz)))] H ∧ va_D A [(m0, .inr (5, [.ref mw, .int (bi im), .ref mt, .int (nI tl), .ref ml, .ref mz, .ref mi, .ref mr, .int (nI at0), .int (nI st0), .int (nI nu), .int (nI rm), .int (nI rh), .ref md, .ref mh])), (mw, .inl (cI, 480, .inl (nA Bw))), (mr, .inl (cI, 6, .inl (nA Rz)))] ∧ va_S A s.heap H locs ∧ lv_has ls 7 [(6, .int (nI v)), (5, .int (nI (rwR Bw r k))), (4, .int (nI k)), (3, .int (nI (rgB Bw))), (2, .int (nI (blS (Bw 0) (wdB Bw) (rwR Bw r) (rgB Bw) k ||| (if blI (Bw 0) (wdB Bw) (rwR Bw r) (rgB Bw) k v then 2 ^ k else 0)))), (0, .ref m0), (1, .int (nI r))]) (fun v Rz => wdB Bw k - v) ?_ 0 (lkN Bw r 6 Ra) H locs ls ⟨by omega, fun j hj _ => lk_at (by omega), hP, hD, hS, lv_sub hl [0, 1, 2, 3, 4, 5, 6] rfl⟩
    rintro v Rz H locs ls ⟨hv2, hz, hP, hD, hS, hl⟩ ih57
    refine lv_iload hx hb dX5_blame_57 (lv_at hl 0 rfl) ?_
    refine lv_aload_n hx hb dX5_blame_59 rfl (lv_at hl 5 rfl) ?_
    refine va_get (D := (dC, dI)) (ci := 5) (v := .ref mw) (C := RX5) (T := TX5) (N := 15) hx hb hts hiX5 hown hK hP 0 rfl rfl 0 (by decide) (hts (.fieldLink RX5 7 "RestRegistersModel" "w" "[I") (by decide +kernel)) (fun _ h9 => h9) rfl dX5_blame_60 ?_
    refine lv_bipush (v := (nI 8)) hx hb dX5_blame_63 (by decide) ?_
    refine lv_iload hx hb dX5_blame_65 (lv_at hl 2 rfl) ?_
    refine rn_iadd hx hb dX5_blame_67 ?_
    refine rn_iald hx hb hK hP 1 0 rfl rfl (i := 8 + k) (by omega) (by decide) (v := (nI (wdB Bw k))) rfl dX5_blame_68 ?_
    have hv68 := hm.wd k (by omega)
    refine rn_icmp_ge (tgt := 113) hx hb dX5_blame_69 (by decide) (by omega) (by omega) (fun c69 => ?_) (fun c69 => ?_)
    · skip
      have ev : v = wdB Bw k := Nat.le_antisymm hv2 c69
      subst ev
      refine lv_iinc (v := (nI (k + 1))) (lv' := [(4, .int (nI (k + 1))), (6, .int (nI (wdB Bw k))), (5, .int (nI (rwR Bw r k))), (3, .int (nI (rgB Bw))), (2, .int (nI (blS (Bw 0) (wdB Bw) (rwR Bw r) (rgB Bw) (k + 1)))), (0, .ref m0), (1, .int (nI r))]) hx hb dX5_blame_113 hl (k := 2) rfl (rn_inc k 1) (by decide) rfl (fun ls hl => ?_)
      refine lv_goto (tgt := 29) hx hb dX5_blame_116 (by decide) ?_
      exact ih29 (k + 1) Rz _ _ ls ⟨by omega, hP, hD, hS, lv_sub hl [0, 3, 4, 5, 6] rfl⟩ (by omega)
    refine lv_aload_n hx hb dX5_blame_72 rfl (lv_at hl 5 rfl) ?_
    refine va_get (D := (dC, dI)) (ci := 5) (v := .ref mr) (C := RX5) (T := TX5) (N := 15) hx hb hts hiX5 hown hK hP 0 rfl rfl 7 (by decide) (hts (.fieldLink RX5 26 "RestRegistersModel" "rests" "[I") (by decide +kernel)) (fun _ h9 => h9) rfl dX5_blame_73 ?_
    refine lv_iload hx hb dX5_blame_76 (lv_at hl 2 rfl) ?_
    refine lv_iload hx hb dX5_blame_78 (lv_at hl 0 rfl) ?_
    refine rn_iast hx hb hK hP hD hS 2 0 rfl rfl (i := k) (by omega) (by decide) (g := nA (uN Rz k v)) (nA_upd _ _ _) dX5_blame_80 (fun H locs hP hD hS => ?_)
    have hP : va_P (dC, dI) vwCl [(m0, .inr (5, [.ref mw, .int (bi im), .ref mt, .int (nI tl), .ref ml, .ref mz, .ref mi, .ref mr, .int (nI at0), .int (nI st0), .int (nI nu), .int (nI rm), .int (nI rh), .ref md, .ref mh])), (mw, .inl (cI, 480, .inl (nA Bw))), (mr, .inl (cI, 6, .inl (nA (uN Rz k v))))] H := hP
    have hD : va_D A [(m0, .inr (5, [.ref mw, .int (bi im), .ref mt, .int (nI tl), .ref ml, .ref mz, .ref mi, .ref mr, .int (nI at0), .int (nI st0), .int (nI nu), .int (nI rm), .int (nI rh), .ref md, .ref mh])), (mw, .inl (cI, 480, .inl (nA Bw))), (mr, .inl (cI, 6, .inl (nA (uN Rz k v))))] := hD
    refine lv_iload_n hx hb dX5_blame_81 rfl (lv_at hl 4 rfl) ?_
    refine lv_iload hx hb dX5_blame_82 (lv_at hl 0 rfl) ?_
    refine lv_iload hx hb dX5_blame_84 (lv_at hl 1 rfl) ?_
    have hrw2 : rwR Bw r k < wdB Bw k := hrw
    refine rn_icmp_eq (tgt := 104) hx hb dX5_blame_86 (by decide) (by omega) (by omega) (fun c86 => ?_) (fun c86 => ?_)
    · skip
      refine lv_iconst (v := (nI 0)) hx hb dX5_blame_104 (by decide) ?_
      refine lv_ior hx hb dX5_blame_105 ?_
      refine rr_top (y := (nI (blS (Bw 0) (wdB Bw) (rwR Bw r) (rgB Bw) k ||| (if blI (Bw 0) (wdB Bw) (rwR Bw r) (rgB Bw) k (v + 1) then 2 ^ k else 0)))) (by rw [or_eq]; first | exact congrArg nI (blI_or (blS (Bw 0) (wdB Bw) (rwR Bw r) (rgB Bw) k) true (by rw [decide_eq_true c86, decide_eq_true c94]; rfl)) | exact congrArg nI (blI_or (blS (Bw 0) (wdB Bw) (rwR Bw r) (rgB Bw) k) false (by rw [decide_eq_false (Nat.not_lt.mpr c94), Bool.and_false])) | exact congrArg nI (blI_or (blS (Bw 0) (wdB Bw) (rwR Bw r) (rgB Bw) k) false (by rw [decide_eq_false (fun q => q c86)]; rfl))) ?_
      refine lv_istore_n (lv' := [(2, .int (nI (blS (Bw 0) (wdB Bw) (rwR Bw r) (rgB Bw) k ||| (if blI (Bw 0) (wdB Bw) (rwR Bw r) (rgB Bw) k (v + 1) then 2 ^ k else 0)))), (6, .int (nI v)), (5, .int (nI (rwR Bw r k))), (4, .int (nI k)), (3, .int (nI (rgB Bw))), (0, .ref m0), (1, .int (nI r))]) hx hb dX5_blame_106 rfl hl (by decide) rfl (fun ls hl => ?_)
      refine lv_iinc (v := (nI (v + 1))) (lv' := [(6, .int (nI (v + 1))), (2, .int (nI (blS (Bw 0) (wdB Bw) (rwR Bw r) (rgB Bw) k ||| (if blI (Bw 0) (wdB Bw) (rwR Bw r) (rgB Bw) k (v + 1) then 2 ^ k else 0)))), (5, .int (nI (rwR Bw r k))), (4, .int (nI k)), (3, .int (nI (rgB Bw))), (0, .ref m0), (1, .int (nI r))]) hx hb dX5_blame_107 hl (k := 1) rfl (rn_inc v 1) (by decide) rfl (fun ls hl => ?_)
      refine lv_goto (tgt := 57) hx hb dX5_blame_110 (by decide) ?_
      exact ih57 (v + 1) (uN Rz k v) _ _ ls ⟨by omega, fun j hj hjk => by rw [uN_ne hjk]; exact hz j hj hjk, hP, hD, hS, lv_sub hl [0, 2, 3, 4, 1, 5, 6] rfl⟩ (by omega)
    have hur : ∀ j, j < Bw 0 → uN (rwR Bw r) k v j < wdB Bw j := fun j hj => by unfold uN; by_cases q : j = k; (rw [if_pos q, q]; exact c69); (rw [if_neg q]; exact hm.row hr4 j hj)
    refine lv_aload_n hx hb dX5_blame_89 rfl (lv_at hl 5 rfl) ?_
    refine rr_callR (va_runV (As := []) (rest := [.int (nI (blS (Bw 0) (wdB Bw) (rwR Bw r) (rgB Bw) k ||| (if blI (Bw 0) (wdB Bw) (rwR Bw r) (rgB Bw) k v then 2 ^ k else 0)))]) ⟨hx, hb, hml, hown, hts⟩ (c_X5_valueOf l dC dI cI cJ cS m0 mw mt ml mz mi mr md mh im tl at0 st0 nu rm rh Bw (uN Rz k v) (by first | assumption | omega) (fun j hj => by rw [show uN Rz k v j = uN (rwR Bw r) k v j from (by unfold uN; by_cases q : j = k; (rw [if_pos q, if_pos q]); (rw [if_neg q, if_neg q]; exact hz j hj q))]; exact hur j hj)) (cwV 0 hts gX5_blame_X5_valueOf rfl rfl rfl (by decide +kernel) ⟨Nat.le_of_ble_eq_true rfl, Nat.le_of_ble_eq_true rfl⟩) (rr_preV hKK hP rfl rfl) rfl rfl hl.1 rfl (lv_room (Nat.le_of_ble_eq_true rfl)) dX5_blame_90 ⟨Nat.zero_le _, Nat.zero_le _⟩) ?_
    refine rn_top (y := Val (Bw 0) (wdB Bw) (uN (rwR Bw r) k v)) (bl_val hz) ?_
    have hvl := Val_lt hm.w hur (Nat.le_refl _)
    have hsb := spB_b hm
    have hsb2 : prW (wdB Bw) (Bw 0) = spB Bw := rfl
    refine lv_iload_n hx hb dX5_blame_93 rfl (lv_at hl 3 rfl) ?_
    refine rn_icmp_ge (tgt := 104) hx hb dX5_blame_94 (by decide) (by omega) (by omega) (fun c94 => ?_) (fun c94 => ?_)
    · skip
      refine lv_iconst (v := (nI 0)) hx hb dX5_blame_104 (by decide) ?_
      refine lv_ior hx hb dX5_blame_105 ?_
      refine rr_top (y := (nI (blS (Bw 0) (wdB Bw) (rwR Bw r) (rgB Bw) k ||| (if blI (Bw 0) (wdB Bw) (rwR Bw r) (rgB Bw) k (v + 1) then 2 ^ k else 0)))) (by rw [or_eq]; first | exact congrArg nI (blI_or (blS (Bw 0) (wdB Bw) (rwR Bw r) (rgB Bw) k) true (by rw [decide_eq_true c86, decide_eq_true c94]; rfl)) | exact congrArg nI (blI_or (blS (Bw 0) (wdB Bw) (rwR Bw r) (rgB Bw) k) false (by rw [decide_eq_false (Nat.not_lt.mpr c94), Bool.and_false])) | exact congrArg nI (blI_or (blS (Bw 0) (wdB Bw) (rwR Bw r) (rgB Bw) k) false (by rw [decide_eq_false (fun q => q c86)]; rfl))) ?_
      refine lv_istore_n (lv' := [(2, .int (nI (blS (Bw 0) (wdB Bw) (rwR Bw r) (rgB Bw) k ||| (if blI (Bw 0) (wdB Bw) (rwR Bw r) (rgB Bw) k (v + 1) then 2 ^ k else 0)))), (6, .int (nI v)), (5, .int (nI (rwR Bw r k))), (4, .int (nI k)), (3, .int (nI (rgB Bw))), (0, .ref m0), (1, .int (nI r))]) hx hb dX5_blame_106 rfl hl (by decide) rfl (fun ls hl => ?_)
      refine lv_iinc (v := (nI (v + 1))) (lv' := [(6, .int (nI (v + 1))), (2, .int (nI (blS (Bw 0) (wdB Bw) (rwR Bw r) (rgB Bw) k ||| (if blI (Bw 0) (wdB Bw) (rwR Bw r) (rgB Bw) k (v + 1) then 2 ^ k else 0)))), (5, .int (nI (rwR Bw r k))), (4, .int (nI k)), (3, .int (nI (rgB Bw))), (0, .ref m0), (1, .int (nI r))]) hx hb dX5_blame_107 hl (k := 1) rfl (rn_inc v 1) (by decide) rfl (fun ls hl => ?_)
      refine lv_goto (tgt := 57) hx hb dX5_blame_110 (by decide) ?_
      exact ih57 (v + 1) (uN Rz k v) _ _ ls ⟨by omega, fun j hj hjk => by rw [uN_ne hjk]; exact hz j hj hjk, hP, hD, hS, lv_sub hl [0, 2, 3, 4, 1, 5, 6] rfl⟩ (by omega)
    refine lv_iconst (v := (nI 1)) hx hb dX5_blame_97 (by decide) ?_
    refine lv_iload hx hb dX5_blame_98 (lv_at hl 2 rfl) ?_
    refine lv_ishl hx hb dX5_blame_100 ?_
    refine lv_goto (tgt := 105) hx hb dX5_blame_101 (by decide) ?_
    refine rr_top (y := nI (2 ^ k)) (shl_eq (by omega)) ?_
    refine lv_ior hx hb dX5_blame_105 ?_
    refine rr_top (y := (nI (blS (Bw 0) (wdB Bw) (rwR Bw r) (rgB Bw) k ||| (if blI (Bw 0) (wdB Bw) (rwR Bw r) (rgB Bw) k (v + 1) then 2 ^ k else 0)))) (by rw [or_eq]; first | exact congrArg nI (blI_or (blS (Bw 0) (wdB Bw) (rwR Bw r) (rgB Bw) k) true (by rw [decide_eq_true c86, decide_eq_true c94]; rfl)) | exact congrArg nI (blI_or (blS (Bw 0) (wdB Bw) (rwR Bw r) (rgB Bw) k) false (by rw [decide_eq_false (Nat.not_lt.mpr c94), Bool.and_false])) | exact congrArg nI (blI_or (blS (Bw 0) (wdB Bw) (rwR Bw r) (rgB Bw) k) false (by rw [decide_eq_false (fun q => q c86)]; rfl))) ?_
    refine lv_istore_n (lv' := [(2, .int (nI (blS (Bw 0) (wdB Bw) (rwR Bw r) (rgB Bw) k ||| (if blI (Bw 0) (wdB Bw) (rwR Bw r) (rgB Bw) k (v + 1) then 2 ^ k else 0)))), (6, .int (nI v)), (5, .int (nI (rwR Bw r k))), (4, .int (nI k)), (3, .int (nI (rgB Bw))), (0, .ref m0), (1, .int (nI r))]) hx hb dX5_blame_106 rfl hl (by decide) rfl (fun ls hl => ?_)
    refine lv_iinc (v := (nI (v + 1))) (lv' := [(6, .int (nI (v + 1))), (2, .int (nI (blS (Bw 0) (wdB Bw) (rwR Bw r) (rgB Bw) k ||| (if blI (Bw 0) (wdB Bw) (rwR Bw r) (rgB Bw) k (v + 1) then 2 ^ k else 0)))), (5, .int (nI (rwR Bw r k))), (4, .int (nI k)), (3, .int (nI (rgB Bw))), (0, .ref m0), (1, .int (nI r))]) hx hb dX5_blame_107 hl (k := 1) rfl (rn_inc v 1) (by decide) rfl (fun ls hl => ?_)
    refine lv_goto (tgt := 57) hx hb dX5_blame_110 (by decide) ?_
    exact ih57 (v + 1) (uN Rz k v) _ _ ls ⟨by omega, fun j hj hjk => by rw [uN_ne hjk]; exact hz j hj hjk, hP, hD, hS, lv_sub hl [0, 2, 3, 4, 1, 5, 6] rfl⟩ (by omega)
  refine lv_iconst (v := (nI 0)) hx hb dX5_blame_17 (by decide) ?_
  exact rr_iretWs (u := (lkN Bw r 6 Rs)) hx hb hr hlocks dX5_blame_18 hP hD hS (by rw [if_pos (of_decide_eq_true c14)])
set_option maxHeartbeats 4000000 in
set_option maxRecDepth 100000 in
theorem c_X5_blame_b (l : Launch) (dC : Nat → ClassId) (dI : Nat → Nat → Nat) (cI cJ cS : ClassId) (m0 mw mt ml mz mi mr md mh : Nat) (im : Bool) (tl at0 st0 nu rm rh : Nat) (Bw : Nat → Nat) (x : Int32) (hm : mOk Bw) (hbad : (inb x 4) = false) : Met l yX5_blame wsX5_blame ({ frames := 3, cells := 0, slots := 0, locals := 65 }) (va_Pc [.ref m0, .int x] (rB (dC, dI) vwCl [(m0, .inr (5, [.ref mw, .int (bi im), .ref mt, .int (nI tl), .ref ml, .ref mz, .ref mi, .ref mr, .int (nI at0), .int (nI st0), .int (nI nu), .int (nI rm), .int (nI rh), .ref md, .ref mh])), (mw, .inl (cI, 480, .inl (nA Bw)))] (tyz cI cJ cS))) (QcRead (-1)) 0 0 (fun _ => False) := by
  refine Met.ofW (cc := cX5_blame) (maxL := 7) (ret := (some .int)) (by decide) rfl ?_
  intro p e s m args below meth c s₁ B hml hv
  obtain ⟨rfl, hP, hKK⟩ := hv
  have hK := hKK.1
  have hx := B.exec
  have hb := B.bytes
  have hr := B.returns
  have hts := atoms_spec (ws := wsX5_blame) B.pre
  have hown : s.vm.findClass RX5 = some m.cls := findClass_of_methodNamed B.named
  have hlocks := B.notSynchronized
  have hiX5 : ∀ w ∈ wsX50, w ∈ wsX5_blame := by decide +kernel
  have hl := lv_entry ([.ref m0, .int x]) (n := 7) (Nat.le_of_ble_eq_true rfl)
  rw [lg_entry_eq]
  generalize (lg_sl ([.ref m0, .int x]) ++ List.replicate (7 - (lg_sl ([.ref m0, .int x])).length) Slot.unset).toArray = ls at hl ⊢
  have hl : lv_has ls 7 [(0, .ref m0), (1, .int x)] := hl
  have hn6 := hm.n
  refine lv_iload_n hx hb dX5_blame_0 rfl (lv_at hl 1 rfl) ?_
  refine rr_callR (va_runS (As := [.int x]) (rest := []) ⟨hx, hb, hml, hown, hts⟩ (c_X5_isRegister l x ) (va_cwS 1 hts gX5_blame_X5_isRegister rfl rfl rfl (by decide +kernel) ⟨Nat.le_of_ble_eq_true rfl, Nat.le_of_ble_eq_true rfl⟩) rr_preT rfl rfl hl.1 rfl (lv_room (Nat.le_of_ble_eq_true rfl)) dX5_blame_1 ⟨Nat.zero_le _, Nat.zero_le _⟩) ?_
  refine rb_if_ne (tgt := 9) hx hb dX5_blame_4 (by decide) (fun c4 => ?_) (fun c4 => ?_)
  · skip
    exact absurd hbad (by rw [c4]; decide)
  refine lv_iconst (v := (-1)) hx hb dX5_blame_7 (by decide) ?_
  exact rr_iret hx hb hr hlocks dX5_blame_8 (rfl)
set_option maxHeartbeats 4000000 in
set_option maxRecDepth 100000 in
theorem c_X5_again_g (l : Launch) (dC : Nat → ClassId) (dI : Nat → Nat → Nat) (cI cJ cS : ClassId) (sz : Nat) (m0 mw mt ml mz mi mr md mh : Nat) (im : Bool) (tl at0 st0 nu rm rh : Nat) (Bw Rs : Nat → Nat) (r o : Nat) (hm : mOk Bw) (hr4 : r < 4) (ho4 : o < 4) : Met l yX5_again wsX5_again ({ frames := 4, cells := 0, slots := 0, locals := 91 }) (va_Pc [.ref m0, .int (nI r), .int (nI o)] (rW (dC, dI) vwCl [(m0, .inr (5, [.ref mw, .int (bi im), .ref mt, .int (nI tl), .ref ml, .ref mz, .ref mi, .ref mr, .int (nI at0), .int (nI st0), .int (nI nu), .int (nI rm), .int (nI rh), .ref md, .ref mh])), (mw, .inl (cI, 480, .inl (nA Bw))), (mr, .inl (cI, 6, .inl (nA Rs)))] (tyz cI cJ cS) sz)) (qIs (agI Bw r o) (dC, dI) vwCl (fun Rq => [(m0, .inr (5, [.ref mw, .int (bi im), .ref mt, .int (nI tl), .ref ml, .ref mz, .ref mi, .ref mr, .int (nI at0), .int (nI st0), .int (nI nu), .int (nI rm), .int (nI rh), .ref md, .ref mh])), (mw, .inl (cI, 480, .inl (nA Bw))), (mr, .inl (cI, 6, .inl (nA Rq)))]) (va_A [(m0, .inr (5, [.ref mw, .int (bi im), .ref mt, .int (nI tl), .ref ml, .ref mz, .ref mi, .ref mr, .int (nI at0), .int (nI st0), .int (nI nu), .int (nI rm), .int (nI rh), .ref md, .ref mh])), (mw, .inl (cI, 480, .inl (nA Bw))), (mr, .inl (cI, 6, .inl (nA Rs)))] sz)) 0 0 (va_A [(m0, .inr (5, [.ref mw, .int (bi im), .ref mt, .int (nI tl), .ref ml, .ref mz, .ref mi, .ref mr, .int (nI at0), .int (nI st0), .int (nI nu), .int (nI rm), .int (nI rh), .ref md, .ref mh])), (mw, .inl (cI, 480, .inl (nA Bw))), (mr, .inl (cI, 6, .inl (nA Rs)))] sz) := by
  refine Met.ofW (cc := cX5_again) (maxL := 6) (ret := (some .int)) (by decide) rfl ?_
  intro p e s m args below meth c s₁ B hml hv
  obtain ⟨rfl, hsz, hP, hKK, hD0⟩ := hv
  have hK := hKK.1
  have hx := B.exec
  have hb := B.bytes
  have hr := B.returns
  have hts := atoms_spec (ws := wsX5_again) B.pre
  have hown : s.vm.findClass RX5 = some m.cls := findClass_of_methodNamed B.named
  have hlocks := B.notSynchronized
  subst hsz
  have hD := hD0.self (sz := s.heap.size)
  generalize hAe : va_A [(m0, .inr (5, [.ref mw, .int (bi im), .ref mt, .int (nI tl), .ref ml, .ref mz, .ref mi, .ref mr, .int (nI at0), .int (nI st0), .int (nI nu), .int (nI rm), .int (nI rh), .ref md, .ref mh])), (mw, .inl (cI, 480, .inl (nA Bw))), (mr, .inl (cI, 6, .inl (nA Rs)))] s.heap.size = A at hD ⊢
  have hA : ∀ q : Nat, s.heap.size ≤ q → A q := fun q h => by rw [← hAe]; exact Or.inr h
  have hS : va_S A s.heap s.heap [] := va_S.rf
  have hP : va_P (dC, dI) vwCl [(m0, .inr (5, [.ref mw, .int (bi im), .ref mt, .int (nI tl), .ref ml, .ref mz, .ref mi, .ref mr, .int (nI at0), .int (nI st0), .int (nI nu), .int (nI rm), .int (nI rh), .ref md, .ref mh])), (mw, .inl (cI, 480, .inl (nA Bw))), (mr, .inl (cI, 6, .inl (nA Rs)))] s.heap := hP
  have hiX5 : ∀ w ∈ wsX50, w ∈ wsX5_again := by decide +kernel
  have hl := lv_entry ([.ref m0, .int (nI r), .int (nI o)]) (n := 6) (Nat.le_of_ble_eq_true rfl)
  rw [lg_entry_eq]
  generalize (lg_sl ([.ref m0, .int (nI r), .int (nI o)]) ++ List.replicate (6 - (lg_sl ([.ref m0, .int (nI r), .int (nI o)])).length) Slot.unset).toArray = ls at hl ⊢
  have hl : lv_has ls 6 [(0, .ref m0), (1, .int (nI r)), (2, .int (nI o))] := hl
  have hn6 := hm.n
  refine lv_iload_n hx hb dX5_again_0 rfl (lv_at hl 1 rfl) ?_
  refine rr_callR (va_runS (As := [.int (nI r)]) (rest := []) ⟨hx, hb, hml, hown, hts⟩ (c_X5_isRegister l (nI r) ) (va_cwS 1 hts gX5_again_X5_isRegister rfl rfl rfl (by decide +kernel) ⟨Nat.le_of_ble_eq_true rfl, Nat.le_of_ble_eq_true rfl⟩) rr_preT rfl rfl hl.1 rfl (lv_room (Nat.le_of_ble_eq_true rfl)) dX5_again_1 ⟨Nat.zero_le _, Nat.zero_le _⟩) ?_
  refine rr_top (y := bi true) (congrArg bi (inb_lt (by omega) (by omega))) ?_
  refine rb_if_eq (tgt := 14) hx hb dX5_again_4 (by decide) (fun c4 => ?_) (fun c4 => ?_)
  · exact absurd c4 (by decide)
  refine lv_iload_n hx hb dX5_again_7 rfl (lv_at hl 2 rfl) ?_
  refine rr_callR (va_runS (As := [.int (nI o)]) (rest := []) ⟨hx, hb, hml, hown, hts⟩ (c_X5_isRegister l (nI o) ) (va_cwS 1 hts gX5_again_X5_isRegister rfl rfl rfl (by decide +kernel) ⟨Nat.le_of_ble_eq_true rfl, Nat.le_of_ble_eq_true rfl⟩) rr_preT rfl rfl hl.1 rfl (lv_room (Nat.le_of_ble_eq_true rfl)) dX5_again_8 ⟨Nat.zero_le _, Nat.zero_le _⟩) ?_
  refine rr_top (y := bi true) (congrArg bi (inb_lt (by omega) (by omega))) ?_
  refine rb_if_ne (tgt := 16) hx hb dX5_again_11 (by decide) (fun c11 => ?_) (fun c11 => ?_)
  rotate_left
  · exact absurd c11 (by decide)
  refine lv_aload_n hx hb dX5_again_16 rfl (lv_at hl 0 rfl) ?_
  refine lv_iload_n hx hb dX5_again_17 rfl (lv_at hl 1 rfl) ?_
  refine rw_callv (va_runV (As := [.int (nI r)]) (rest := []) ⟨hx, hb, hml, hown, hts⟩ (c_X5_looks l dC dI cI cJ cS _ m0 mw mt ml mz mi mr md mh im tl at0 st0 nu rm rh Bw Rs r (by first | assumption | omega)) (cwV 1 hts gX5_again_X5_looks rfl rfl rfl (by decide +kernel) ⟨Nat.le_of_ble_eq_true rfl, Nat.le_of_ble_eq_true rfl⟩) (rw_preV hKK hP hD rfl rfl) rfl rfl hl.1 rfl (lv_room (Nat.le_of_ble_eq_true rfl)) dX5_again_18 ⟨Nat.zero_le _, Nat.zero_le _⟩) (wr := []) hP hD hS hA [0, 1, 2] [] rfl rfl (by decide) (by decide) (fun H locs hP hD hS => ?_)
  have hP : va_P (dC, dI) vwCl [(m0, .inr (5, [.ref mw, .int (bi im), .ref mt, .int (nI tl), .ref ml, .ref mz, .ref mi, .ref mr, .int (nI at0), .int (nI st0), .int (nI nu), .int (nI rm), .int (nI rh), .ref md, .ref mh])), (mw, .inl (cI, 480, .inl (nA Bw))), (mr, .inl (cI, 6, .inl (nA (lkN Bw r 6 Rs))))] H := hP.sub [0, 1, 2] rfl
  have hD : va_D A [(m0, .inr (5, [.ref mw, .int (bi im), .ref mt, .int (nI tl), .ref ml, .ref mz, .ref mi, .ref mr, .int (nI at0), .int (nI st0), .int (nI nu), .int (nI rm), .int (nI rh), .ref md, .ref mh])), (mw, .inl (cI, 480, .inl (nA Bw))), (mr, .inl (cI, 6, .inl (nA (lkN Bw r 6 Rs))))] := hD.sub [0, 1, 2] (by decide) rfl
  refine lv_iconst (v := (nI 1)) hx hb dX5_again_21 (by decide) ?_
  refine lv_istore_n (lv' := [(3, .int (nI 1)), (0, .ref m0), (1, .int (nI r)), (2, .int (nI o))]) hx hb dX5_again_22 rfl hl (by decide) rfl (fun ls hl => ?_)
  have ec : nA (lkN Bw r 6 Rs) = nA (smN Bw r o 0 0 Rs) := smN_0 _ _ _
  rw [ec] at hP hD
  have hP : va_P (dC, dI) vwCl [(m0, .inr (5, [.ref mw, .int (bi im), .ref mt, .int (nI tl), .ref ml, .ref mz, .ref mi, .ref mr, .int (nI at0), .int (nI st0), .int (nI nu), .int (nI rm), .int (nI rh), .ref md, .ref mh])), (mw, .inl (cI, 480, .inl (nA Bw))), (mr, .inl (cI, 6, .inl (nA (smN Bw r o 0 0 Rs))))] H := hP
  have hD : va_D A [(m0, .inr (5, [.ref mw, .int (bi im), .ref mt, .int (nI tl), .ref ml, .ref mz, .ref mi, .ref mr, .int (nI at0), .int (nI st0), .int (nI nu), .int (nI rm), .int (nI rh), .ref md, .ref mh])), (mw, .inl (cI, 480, .inl (nA Bw))), (mr, .inl (cI, 6, .inl (nA (smN Bw r o 0 0 Rs))))] := hD
  refine rlW1 (A1 := Nat) (fun H locs ls => W p l e _ s m _ below meth c H locs 0 0 _ (F0 m 23 ls [])) (fun t H locs ls => t ≤ 2000 ∧ agR Bw r o = fstN (fun t => agB Bw r o t (Bw 0)) (t + 1) (2000 - t) ∧ va_P (dC, dI) vwCl [(m0, .inr (5, [.ref mw, .int (bi im), .ref mt, .int (nI tl), .ref ml, .ref mz, .ref mi, .ref mr, .int (nI at0), .int (nI st0), .int (nI nu), .int (nI rm), .int (nI rh), .ref md, .ref mh])), (mw, .inl (cI, 480, .inl (nA Bw))), (mr, .inl (cI, 6, .inl (nA (smN Bw r o t 0 Rs))))] H ∧ va_D A [(m0, .inr (5, [.ref mw, .int (bi im), .ref mt, .int (nI tl), .ref ml, .ref mz, .ref mi, .ref mr, .int (nI at0), .int (nI st0), .int (nI nu), .int (nI rm), .int (nI rh), .ref md, .ref mh])), (mw, .inl (cI, 480, .inl (nA Bw))), (mr, .inl (cI, 6, .inl (nA (smN Bw r o t 0 Rs))))] ∧ va_S A s.heap H locs ∧ lv_has ls 6 [(3, .int (nI (t + 1))), (0, .ref m0), (1, .int (nI r)), (2, .int (nI o))]) (fun t => 2000 - t) ?_ 0 H locs ls ⟨by omega, rfl, hP, hD, hS, lv_sub hl [0, 1, 2, 3] rfl⟩
  rintro t H locs ls ⟨ht, hf, hP, hD, hS, hl⟩ ih23
  refine lv_iload_n hx hb dX5_again_23 rfl (lv_at hl 0 rfl) ?_
  refine lv_sipush (v := (nI 2000)) hx hb dX5_again_24 (by decide) ?_
  refine rn_icmp_gt (tgt := 138) hx hb dX5_again_27 (by decide) (by omega) (by omega) (fun c27 => ?_) (fun c27 => ?_)
  · skip
    have hfin : agR Bw r o = 0 := by rw [hf, show 2000 - t = 0 by omega]; rfl
    refine lv_bipush (v := (-4)) hx hb dX5_again_138 (by decide) ?_
    exact rr_iretWs (u := (smN Bw r o t 0 Rs)) hx hb hr hlocks dX5_again_140 hP hD hS (by unfold agI; rw [hfin, if_pos rfl])
  refine lv_iconst (v := (nI 1)) hx hb dX5_again_30 (by decide) ?_
  refine lv_istore (lv' := [(4, .int (nI 1)), (3, .int (nI (t + 1))), (0, .ref m0), (1, .int (nI r)), (2, .int (nI o))]) hx hb dX5_again_31 hl (by decide) rfl (fun ls hl => ?_)
  refine lv_iconst (v := (nI 0)) hx hb dX5_again_33 (by decide) ?_
  refine lv_istore (lv' := [(5, .int (nI 0)), (4, .int (nI 1)), (3, .int (nI (t + 1))), (0, .ref m0), (1, .int (nI r)), (2, .int (nI o))]) hx hb dX5_again_34 hl (by decide) rfl (fun ls hl => ?_)
  have hl : lv_has ls 6 [(5, .int (nI 0)), (4, .int (bi (agB Bw r o (t + 1) 0))), (3, .int (nI (t + 1))), (0, .ref m0), (1, .int (nI r)), (2, .int (nI o))] := hl
  refine rlW1 (A1 := Nat) (fun H locs ls => W p l e _ s m _ below meth c H locs 0 0 _ (F0 m 36 ls [])) (fun k H locs ls => k ≤ Bw 0 ∧ va_P (dC, dI) vwCl [(m0, .inr (5, [.ref mw, .int (bi im), .ref mt, .int (nI tl), .ref ml, .ref mz, .ref mi, .ref mr, .int (nI at0), .int (nI st0), .int (nI nu), .int (nI rm), .int (nI rh), .ref md, .ref mh])), (mw, .inl (cI, 480, .inl (nA Bw))), (mr, .inl (cI, 6, .inl (nA (smN Bw r o t k Rs))))] H ∧ va_D A [(m0, .inr (5, [.ref mw, .int (bi im), .ref mt, .int (nI tl), .ref ml, .ref mz, .ref mi, .ref mr, .int (nI at0), .int (nI st0), .int (nI nu), .int (nI rm), .int (nI rh), .ref md, .ref mh])), (mw, .inl (cI, 480, .inl (nA Bw))), (mr, .inl (cI, 6, .inl (nA (smN Bw r o t k Rs))))] ∧ va_S A s.heap H locs ∧ lv_has ls 6 [(5, .int (nI k)), (4, .int (bi (agB Bw r o (t + 1) k))), (3, .int (nI (t + 1))), (0, .ref m0), (1, .int (nI r)), (2, .int (nI o))]) (fun k => Bw 0 - k) ?_ 0 H locs ls ⟨by omega, hP, hD, hS, lv_sub hl [0, 1, 2, 3, 4, 5] rfl⟩
  rintro k H locs ls ⟨hk2, hP, hD, hS, hl⟩ ih36
  refine lv_iload hx hb dX5_again_36 (lv_at hl 0 rfl) ?_
  refine lv_aload_n hx hb dX5_again_38 rfl (lv_at hl 3 rfl) ?_
  refine va_get (D := (dC, dI)) (ci := 5) (v := .ref mw) (C := RX5) (T := TX5) (N := 15) hx hb hts hiX5 hown hK hP 0 rfl rfl 0 (by decide) (hts (.fieldLink RX5 7 "RestRegistersModel" "w" "[I") (by decide +kernel)) (fun _ h9 => h9) rfl dX5_again_39 ?_
  refine lv_iconst (v := (nI 0)) hx hb dX5_again_42 (by decide) ?_
  refine rn_iald hx hb hK hP 1 0 rfl rfl (i := 0) (by omega) (by decide) (v := (nI (Bw 0))) rfl dX5_again_43 ?_
  refine rn_icmp_ge (tgt := 125) hx hb dX5_again_44 (by decide) (by omega) (by omega) (fun c44 => ?_) (fun c44 => ?_)
  · skip
    have ek : k = Bw 0 := Nat.le_antisymm hk2 c44
    subst ek
    have ec : nA (smN Bw r o t (Bw 0) Rs) = nA (smN Bw r o (t + 1) 0 Rs) := smN_n hm.n _ _ _ _
    rw [ec] at hP hD
    have hP : va_P (dC, dI) vwCl [(m0, .inr (5, [.ref mw, .int (bi im), .ref mt, .int (nI tl), .ref ml, .ref mz, .ref mi, .ref mr, .int (nI at0), .int (nI st0), .int (nI nu), .int (nI rm), .int (nI rh), .ref md, .ref mh])), (mw, .inl (cI, 480, .inl (nA Bw))), (mr, .inl (cI, 6, .inl (nA (smN Bw r o (t + 1) 0 Rs))))] H := hP
    have hD : va_D A [(m0, .inr (5, [.ref mw, .int (bi im), .ref mt, .int (nI tl), .ref ml, .ref mz, .ref mi, .ref mr, .int (nI at0), .int (nI st0), .int (nI nu), .int (nI rm), .int (nI rh), .ref md, .ref mh])), (mw, .inl (cI, 480, .inl (nA Bw))), (mr, .inl (cI, 6, .inl (nA (smN Bw r o (t + 1) 0 Rs))))] := hD
    refine lv_iload hx hb dX5_again_125 (lv_at hl 1 rfl) ?_
    refine rb_if_eq (tgt := 132) hx hb dX5_again_127 (by decide) (fun c127 => ?_) (fun c127 => ?_)
    · skip
      have hag := c127
      refine lv_iinc (v := (nI (t + 1 + 1))) (lv' := [(3, .int (nI (t + 1 + 1))), (5, .int (nI (Bw 0))), (4, .int (bi (agB Bw r o (t + 1) (Bw 0)))), (0, .ref m0), (1, .int (nI r)), (2, .int (nI o))]) hx hb dX5_again_132 hl (k := 2) rfl (rn_inc (t + 1) 1) (by decide) rfl (fun ls hl => ?_)
      refine lv_goto (tgt := 23) hx hb dX5_again_135 (by decide) ?_
      exact ih23 (t + 1) _ _ ls ⟨by omega, by rw [hf, show 2000 - t = (2000 - (t + 1)) + 1 by omega, fstN, if_neg (by rw [hag]; decide)], hP, hD, hS, lv_sub hl [0, 3, 4, 5] rfl⟩ (by omega)
    have hfin : agR Bw r o = t + 1 := by rw [hf, show 2000 - t = (2000 - (t + 1)) + 1 by omega, fstN, if_pos c127]
    refine lv_iload_n hx hb dX5_again_130 rfl (lv_at hl 2 rfl) ?_
    exact rr_iretWs (u := (smN Bw r o (t + 1) 0 Rs)) hx hb hr hlocks dX5_again_131 hP hD hS (by unfold agI; rw [hfin, if_neg (by omega)])
  refine lv_aload_n hx hb dX5_again_47 rfl (lv_at hl 3 rfl) ?_
  refine va_get (D := (dC, dI)) (ci := 5) (v := .ref mr) (C := RX5) (T := TX5) (N := 15) hx hb hts hiX5 hown hK hP 0 rfl rfl 7 (by decide) (hts (.fieldLink RX5 26 "RestRegistersModel" "rests" "[I") (by decide +kernel)) (fun _ h9 => h9) rfl dX5_again_48 ?_
  refine lv_iload hx hb dX5_again_51 (lv_at hl 0 rfl) ?_
  refine lv_aload_n hx hb dX5_again_53 rfl (lv_at hl 3 rfl) ?_
  refine lv_iload hx hb dX5_again_54 (lv_at hl 0 rfl) ?_
  refine lv_aload_n hx hb dX5_again_56 rfl (lv_at hl 3 rfl) ?_
  refine va_get (D := (dC, dI)) (ci := 5) (v := .ref mr) (C := RX5) (T := TX5) (N := 15) hx hb hts hiX5 hown hK hP 0 rfl rfl 7 (by decide) (hts (.fieldLink RX5 26 "RestRegistersModel" "rests" "[I") (by decide +kernel)) (fun _ h9 => h9) rfl dX5_again_57 ?_
  refine lv_iload hx hb dX5_again_60 (lv_at hl 0 rfl) ?_
  refine rn_iald hx hb hK hP 2 0 rfl rfl (i := k) (by omega) (by decide) (v := (nI ((smN Bw r o t k Rs) k))) rfl dX5_again_62 ?_
  refine rn_top (y := addO (kdB Bw k) (wdB Bw k) (rsB Bw (r * 6 + k)) (rsB Bw (o * 6 + k)) t) (smN_at (by omega) hm.n) ?_
  have hra := hm.row hr4 k (by omega)
  have hrb := hm.row ho4 k (by omega)
  have hal := addO_lt (kd := kdB Bw k) hra hrb t
  have hal1 := addO_lt (kd := kdB Bw k) hra hrb (t + 1)
  have hw9 := hm.wd k (by omega)
  refine lv_aload_n hx hb dX5_again_63 rfl (lv_at hl 3 rfl) ?_
  refine va_get (D := (dC, dI)) (ci := 5) (v := .ref mw) (C := RX5) (T := TX5) (N := 15) hx hb hts hiX5 hown hK hP 0 rfl rfl 0 (by decide) (hts (.fieldLink RX5 7 "RestRegistersModel" "w" "[I") (by decide +kernel)) (fun _ h9 => h9) rfl dX5_again_64 ?_
  refine lv_bipush (v := (nI 15)) hx hb dX5_again_67 (by decide) ?_
  refine lv_bipush (v := (nI 6)) hx hb dX5_again_69 (by decide) ?_
  refine lv_iload_n hx hb dX5_again_71 rfl (lv_at hl 5 rfl) ?_
  refine rn_imul hx hb dX5_again_72 ?_
  refine rn_iadd hx hb dX5_again_73 ?_
  refine lv_iload hx hb dX5_again_74 (lv_at hl 0 rfl) ?_
  refine rn_iadd hx hb dX5_again_76 ?_
  refine rn_iald hx hb hK hP 1 0 rfl rfl (i := 15 + (6 * o) + k) (by omega) (by decide) (v := (nI (rsB Bw (o * 6 + k)))) (rs_at _ _ _) dX5_again_77 ?_
  refine rr_callR (va_runV (As := [.int (nI k), .int (nI (addO (kdB Bw k) (wdB Bw k) (rsB Bw (r * 6 + k)) (rsB Bw (o * 6 + k)) t)), .int (nI (rsB Bw (o * 6 + k)))]) (rest := [.int (nI k), .ref mr]) ⟨hx, hb, hml, hown, hts⟩ (c_X5_added l dC dI cI cJ cS m0 mw mt ml mz mi mr md mh im tl at0 st0 nu rm rh Bw k (addO (kdB Bw k) (wdB Bw k) (rsB Bw (r * 6 + k)) (rsB Bw (o * 6 + k)) t) (rsB Bw (o * 6 + k)) (kdB Bw k) (wdB Bw k) (rfl) (rfl) (hm.kd k (by omega)) ((hm.wd k (by omega)).1) ((hm.wd k (by omega)).2) (by first | assumption | omega) (by first | assumption | omega) (by first | assumption | omega)) (cwV 3 hts gX5_again_X5_added rfl rfl rfl (by decide +kernel) ⟨Nat.le_of_ble_eq_true rfl, Nat.le_of_ble_eq_true rfl⟩) (rr_preV hKK (hP.sub [0, 1] rfl) rfl rfl) rfl rfl hl.1 rfl (lv_room (Nat.le_of_ble_eq_true rfl)) dX5_again_78 ⟨Nat.zero_le _, Nat.zero_le _⟩) ?_
  refine rn_iast hx hb hK hP hD hS 2 0 rfl rfl (i := k) (by omega) (by decide) (g := nA (uN (smN Bw r o t k Rs) k (addK (kdB Bw k) (wdB Bw k) (addO (kdB Bw k) (wdB Bw k) (rsB Bw (r * 6 + k)) (rsB Bw (o * 6 + k)) t) (rsB Bw (o * 6 + k))))) (nA_upd _ _ _) dX5_again_81 (fun H locs hP hD hS => ?_)
  have hP : va_P (dC, dI) vwCl [(m0, .inr (5, [.ref mw, .int (bi im), .ref mt, .int (nI tl), .ref ml, .ref mz, .ref mi, .ref mr, .int (nI at0), .int (nI st0), .int (nI nu), .int (nI rm), .int (nI rh), .ref md, .ref mh])), (mw, .inl (cI, 480, .inl (nA Bw))), (mr, .inl (cI, 6, .inl (nA (uN (smN Bw r o t k Rs) k (addK (kdB Bw k) (wdB Bw k) (addO (kdB Bw k) (wdB Bw k) (rsB Bw (r * 6 + k)) (rsB Bw (o * 6 + k)) t) (rsB Bw (o * 6 + k)))))))] H := hP
  have hD : va_D A [(m0, .inr (5, [.ref mw, .int (bi im), .ref mt, .int (nI tl), .ref ml, .ref mz, .ref mi, .ref mr, .int (nI at0), .int (nI st0), .int (nI nu), .int (nI rm), .int (nI rh), .ref md, .ref mh])), (mw, .inl (cI, 480, .inl (nA Bw))), (mr, .inl (cI, 6, .inl (nA (uN (smN Bw r o t k Rs) k (addK (kdB Bw k) (wdB Bw k) (addO (kdB Bw k) (wdB Bw k) (rsB Bw (r * 6 + k)) (rsB Bw (o * 6 + k)) t) (rsB Bw (o * 6 + k)))))))] := hD
  have ec : nA (uN (smN Bw r o t k Rs) k (addK (kdB Bw k) (wdB Bw k) (addO (kdB Bw k) (wdB Bw k) (rsB Bw (r * 6 + k)) (rsB Bw (o * 6 + k)) t) (rsB Bw (o * 6 + k)))) = nA (smN Bw r o t (k + 1) Rs) := smN_s rfl
  rw [ec] at hP hD
  have hP : va_P (dC, dI) vwCl [(m0, .inr (5, [.ref mw, .int (bi im), .ref mt, .int (nI tl), .ref ml, .ref mz, .ref mi, .ref mr, .int (nI at0), .int (nI st0), .int (nI nu), .int (nI rm), .int (nI rh), .ref md, .ref mh])), (mw, .inl (cI, 480, .inl (nA Bw))), (mr, .inl (cI, 6, .inl (nA (smN Bw r o t (k + 1) Rs))))] H := hP
  have hD : va_D A [(m0, .inr (5, [.ref mw, .int (bi im), .ref mt, .int (nI tl), .ref ml, .ref mz, .ref mi, .ref mr, .int (nI at0), .int (nI st0), .int (nI nu), .int (nI rm), .int (nI rh), .ref md, .ref mh])), (mw, .inl (cI, 480, .inl (nA Bw))), (mr, .inl (cI, 6, .inl (nA (smN Bw r o t (k + 1) Rs))))] := hD
  refine lv_iload hx hb dX5_again_82 (lv_at hl 1 rfl) ?_
  refine rb_if_eq (tgt := 116) hx hb dX5_again_84 (by decide) (fun c84 => ?_) (fun c84 => ?_)
  · skip
    refine lv_iconst (v := (nI 0)) hx hb dX5_again_116 (by decide) ?_
    refine rr_top (y := bi (agB Bw r o (t + 1) (k + 1))) (by rw [agB]; first | (rw [c84, decide_eq_true c109]; rfl) | (rw [c84, decide_eq_false c109]; rfl) | (rw [c84]; rfl)) ?_
    refine lv_istore (lv' := [(4, .int (bi (agB Bw r o (t + 1) (k + 1)))), (5, .int (nI k)), (3, .int (nI (t + 1))), (0, .ref m0), (1, .int (nI r)), (2, .int (nI o))]) hx hb dX5_again_117 hl (by decide) rfl (fun ls hl => ?_)
    refine lv_iinc (v := (nI (k + 1))) (lv' := [(5, .int (nI (k + 1))), (4, .int (bi (agB Bw r o (t + 1) (k + 1)))), (3, .int (nI (t + 1))), (0, .ref m0), (1, .int (nI r)), (2, .int (nI o))]) hx hb dX5_again_119 hl (k := 1) rfl (rn_inc k 1) (by decide) rfl (fun ls hl => ?_)
    refine lv_goto (tgt := 36) hx hb dX5_again_122 (by decide) ?_
    exact ih36 (k + 1) _ _ ls ⟨by omega, hP, hD, hS, lv_sub hl [0, 1, 2, 3, 4, 5] rfl⟩ (by omega)
  refine lv_aload_n hx hb dX5_again_87 rfl (lv_at hl 3 rfl) ?_
  refine va_get (D := (dC, dI)) (ci := 5) (v := .ref mr) (C := RX5) (T := TX5) (N := 15) hx hb hts hiX5 hown hK hP 0 rfl rfl 7 (by decide) (hts (.fieldLink RX5 26 "RestRegistersModel" "rests" "[I") (by decide +kernel)) (fun _ h9 => h9) rfl dX5_again_88 ?_
  refine lv_iload hx hb dX5_again_91 (lv_at hl 0 rfl) ?_
  refine rn_iald hx hb hK hP 2 0 rfl rfl (i := k) (by omega) (by decide) (v := (nI ((smN Bw r o t (k + 1) Rs) k))) rfl dX5_again_93 ?_
  refine rn_top (y := addO (kdB Bw k) (wdB Bw k) (rsB Bw (r * 6 + k)) (rsB Bw (o * 6 + k)) (t + 1)) (smN_at1) ?_
  refine lv_aload_n hx hb dX5_again_94 rfl (lv_at hl 3 rfl) ?_
  refine va_get (D := (dC, dI)) (ci := 5) (v := .ref mw) (C := RX5) (T := TX5) (N := 15) hx hb hts hiX5 hown hK hP 0 rfl rfl 0 (by decide) (hts (.fieldLink RX5 7 "RestRegistersModel" "w" "[I") (by decide +kernel)) (fun _ h9 => h9) rfl dX5_again_95 ?_
  refine lv_bipush (v := (nI 15)) hx hb dX5_again_98 (by decide) ?_
  refine lv_bipush (v := (nI 6)) hx hb dX5_again_100 (by decide) ?_
  refine lv_iload_n hx hb dX5_again_102 rfl (lv_at hl 4 rfl) ?_
  refine rn_imul hx hb dX5_again_103 ?_
  refine rn_iadd hx hb dX5_again_104 ?_
  refine lv_iload hx hb dX5_again_105 (lv_at hl 0 rfl) ?_
  refine rn_iadd hx hb dX5_again_107 ?_
  refine rn_iald hx hb hK hP 1 0 rfl rfl (i := 15 + (6 * r) + k) (by omega) (by decide) (v := (nI (rsB Bw (r * 6 + k)))) (rs_at _ _ _) dX5_again_108 ?_
  refine rn_icmp_ne (tgt := 116) hx hb dX5_again_109 (by decide) (by omega) (by omega) (fun c109 => ?_) (fun c109 => ?_)
  · skip
    refine lv_iconst (v := (nI 0)) hx hb dX5_again_116 (by decide) ?_
    refine rr_top (y := bi (agB Bw r o (t + 1) (k + 1))) (by rw [agB]; first | (rw [c84, decide_eq_true c109]; rfl) | (rw [c84, decide_eq_false c109]; rfl) | (rw [c84]; rfl)) ?_
    refine lv_istore (lv' := [(4, .int (bi (agB Bw r o (t + 1) (k + 1)))), (5, .int (nI k)), (3, .int (nI (t + 1))), (0, .ref m0), (1, .int (nI r)), (2, .int (nI o))]) hx hb dX5_again_117 hl (by decide) rfl (fun ls hl => ?_)
    refine lv_iinc (v := (nI (k + 1))) (lv' := [(5, .int (nI (k + 1))), (4, .int (bi (agB Bw r o (t + 1) (k + 1)))), (3, .int (nI (t + 1))), (0, .ref m0), (1, .int (nI r)), (2, .int (nI o))]) hx hb dX5_again_119 hl (k := 1) rfl (rn_inc k 1) (by decide) rfl (fun ls hl => ?_)
    refine lv_goto (tgt := 36) hx hb dX5_again_122 (by decide) ?_
    exact ih36 (k + 1) _ _ ls ⟨by omega, hP, hD, hS, lv_sub hl [0, 1, 2, 3, 4, 5] rfl⟩ (by omega)
  refine lv_iconst (v := (nI 1)) hx hb dX5_again_112 (by decide) ?_
  refine lv_goto (tgt := 117) hx hb dX5_again_113 (by decide) ?_
  refine rr_top (y := bi (agB Bw r o (t + 1) (k + 1))) (by rw [agB]; first | (rw [c84, decide_eq_true c109]; rfl) | (rw [c84, decide_eq_false c109]; rfl) | (rw [c84]; rfl)) ?_
  refine lv_istore (lv' := [(4, .int (bi (agB Bw r o (t + 1) (k + 1)))), (5, .int (nI k)), (3, .int (nI (t + 1))), (0, .ref m0), (1, .int (nI r)), (2, .int (nI o))]) hx hb dX5_again_117 hl (by decide) rfl (fun ls hl => ?_)
  refine lv_iinc (v := (nI (k + 1))) (lv' := [(5, .int (nI (k + 1))), (4, .int (bi (agB Bw r o (t + 1) (k + 1)))), (3, .int (nI (t + 1))), (0, .ref m0), (1, .int (nI r)), (2, .int (nI o))]) hx hb dX5_again_119 hl (k := 1) rfl (rn_inc k 1) (by decide) rfl (fun ls hl => ?_)
  refine lv_goto (tgt := 36) hx hb dX5_again_122 (by decide) ?_
  exact ih36 (k + 1) _ _ ls ⟨by omega, hP, hD, hS, lv_sub hl [0, 1, 2, 3, 4, 5] rfl⟩ (by omega)
set_option maxHeartbeats 4000000 in
set_option maxRecDepth 100000 in
theorem c_X5_again_b (l : Launch) (dC : Nat → ClassId) (dI : Nat → Nat → Nat) (cI cJ cS : ClassId) (m0 mw mt ml mz mi mr md mh : Nat) (im : Bool) (tl at0 st0 nu rm rh : Nat) (Bw : Nat → Nat) (x y : Int32) (hm : mOk Bw) (hbad : (inb x 4 && inb y 4) = false) : Met l yX5_again wsX5_again ({ frames := 4, cells := 0, slots := 0, locals := 91 }) (va_Pc [.ref m0, .int x, .int y] (rB (dC, dI) vwCl [(m0, .inr (5, [.ref mw, .int (bi im), .ref mt, .int (nI tl), .ref ml, .ref mz, .ref mi, .ref mr, .int (nI at0), .int (nI st0), .int (nI nu), .int (nI rm), .int (nI rh), .ref md, .ref mh])), (mw, .inl (cI, 480, .inl (nA Bw)))] (tyz cI cJ cS))) (QcRead (-1)) 0 0 (fun _ => False) := by
  refine Met.ofW (cc := cX5_again) (maxL := 6) (ret := (some .int)) (by decide) rfl ?_
  intro p e s m args below meth c s₁ B hml hv
  obtain ⟨rfl, hP, hKK⟩ := hv
  have hK := hKK.1
  have hx := B.exec
  have hb := B.bytes
  have hr := B.returns
  have hts := atoms_spec (ws := wsX5_again) B.pre
  have hown : s.vm.findClass RX5 = some m.cls := findClass_of_methodNamed B.named
  have hlocks := B.notSynchronized
  have hiX5 : ∀ w ∈ wsX50, w ∈ wsX5_again := by decide +kernel
  have hl := lv_entry ([.ref m0, .int x, .int y]) (n := 6) (Nat.le_of_ble_eq_true rfl)
  rw [lg_entry_eq]
  generalize (lg_sl ([.ref m0, .int x, .int y]) ++ List.replicate (6 - (lg_sl ([.ref m0, .int x, .int y])).length) Slot.unset).toArray = ls at hl ⊢
  have hl : lv_has ls 6 [(0, .ref m0), (1, .int x), (2, .int y)] := hl
  have hn6 := hm.n
  refine lv_iload_n hx hb dX5_again_0 rfl (lv_at hl 1 rfl) ?_
  refine rr_callR (va_runS (As := [.int x]) (rest := []) ⟨hx, hb, hml, hown, hts⟩ (c_X5_isRegister l x ) (va_cwS 1 hts gX5_again_X5_isRegister rfl rfl rfl (by decide +kernel) ⟨Nat.le_of_ble_eq_true rfl, Nat.le_of_ble_eq_true rfl⟩) rr_preT rfl rfl hl.1 rfl (lv_room (Nat.le_of_ble_eq_true rfl)) dX5_again_1 ⟨Nat.zero_le _, Nat.zero_le _⟩) ?_
  refine rb_if_eq (tgt := 14) hx hb dX5_again_4 (by decide) (fun c4 => ?_) (fun c4 => ?_)
  · skip
    refine lv_iconst (v := (-1)) hx hb dX5_again_14 (by decide) ?_
    exact rr_iret hx hb hr hlocks dX5_again_15 (rfl)
  refine lv_iload_n hx hb dX5_again_7 rfl (lv_at hl 2 rfl) ?_
  refine rr_callR (va_runS (As := [.int y]) (rest := []) ⟨hx, hb, hml, hown, hts⟩ (c_X5_isRegister l y ) (va_cwS 1 hts gX5_again_X5_isRegister rfl rfl rfl (by decide +kernel) ⟨Nat.le_of_ble_eq_true rfl, Nat.le_of_ble_eq_true rfl⟩) rr_preT rfl rfl hl.1 rfl (lv_room (Nat.le_of_ble_eq_true rfl)) dX5_again_8 ⟨Nat.zero_le _, Nat.zero_le _⟩) ?_
  refine rb_if_ne (tgt := 16) hx hb dX5_again_11 (by decide) (fun c11 => ?_) (fun c11 => ?_)
  · skip
    exact absurd hbad (by rw [c4, c11]; decide)
  refine lv_iconst (v := (-1)) hx hb dX5_again_14 (by decide) ?_
  exact rr_iret hx hb hr hlocks dX5_again_15 (rfl)
set_option maxHeartbeats 4000000 in
set_option maxRecDepth 100000 in
theorem c_X5_unseen_0 (l : Launch) (dC : Nat → ClassId) (dI : Nat → Nat → Nat) (cI cJ cS : ClassId) (sz : Nat) (m0 mw mt ml mz mi mr md mh : Nat) (im : Bool) (tl at0 st0 nu rm rh : Nat) (Bw Rs : Nat → Nat) (r ch : Nat) (hm : mOk Bw) (hr4 : r < 4) (hc2 : ch ≤ 10) : Met l yX5_unseen wsX5_unseen ({ frames := 2, cells := 0, slots := 0, locals := 45 }) (va_Pc [.ref m0, .int (nI r), .int (nI ch), .int (nI 0)] (rW (dC, dI) vwCl [(m0, .inr (5, [.ref mw, .int (bi im), .ref mt, .int (nI tl), .ref ml, .ref mz, .ref mi, .ref mr, .int (nI at0), .int (nI st0), .int (nI nu), .int (nI rm), .int (nI rh), .ref md, .ref mh])), (mw, .inl (cI, 480, .inl (nA Bw))), (mr, .inl (cI, 6, .inl (nA Rs)))] (tyz cI cJ cS) sz)) (qIs (nI (upN (Bw 0) (wdB Bw) (rwR Bw r) (rgB Bw) ch (2 ^ Bw 0) / Nat.gcd (upN (Bw 0) (wdB Bw) (rwR Bw r) (rgB Bw) ch (2 ^ Bw 0)) (10 ^ Bw 0))) (dC, dI) vwCl (fun Rq => [(m0, .inr (5, [.ref mw, .int (bi im), .ref mt, .int (nI tl), .ref ml, .ref mz, .ref mi, .ref mr, .int (nI at0), .int (nI st0), .int (nI nu), .int (nI rm), .int (nI rh), .ref md, .ref mh])), (mw, .inl (cI, 480, .inl (nA Bw))), (mr, .inl (cI, 6, .inl (nA Rq)))]) (va_A [(m0, .inr (5, [.ref mw, .int (bi im), .ref mt, .int (nI tl), .ref ml, .ref mz, .ref mi, .ref mr, .int (nI at0), .int (nI st0), .int (nI nu), .int (nI rm), .int (nI rh), .ref md, .ref mh])), (mw, .inl (cI, 480, .inl (nA Bw))), (mr, .inl (cI, 6, .inl (nA Rs)))] sz)) 0 0 (va_A [(m0, .inr (5, [.ref mw, .int (bi im), .ref mt, .int (nI tl), .ref ml, .ref mz, .ref mi, .ref mr, .int (nI at0), .int (nI st0), .int (nI nu), .int (nI rm), .int (nI rh), .ref md, .ref mh])), (mw, .inl (cI, 480, .inl (nA Bw))), (mr, .inl (cI, 6, .inl (nA Rs)))] sz) := by
  refine Met.ofW (cc := cX5_unseen) (maxL := 10) (ret := (some .int)) (by decide) rfl ?_
  intro p e s m args below meth c s₁ B hml hv
  obtain ⟨rfl, hsz, hP, hKK, hD0⟩ := hv
  have hK := hKK.1
  have hx := B.exec
  have hb := B.bytes
  have hr := B.returns
  have hts := atoms_spec (ws := wsX5_unseen) B.pre
  have hown : s.vm.findClass RX5 = some m.cls := findClass_of_methodNamed B.named
  have hlocks := B.notSynchronized
  subst hsz
  have hD := hD0.self (sz := s.heap.size)
  generalize hAe : va_A [(m0, .inr (5, [.ref mw, .int (bi im), .ref mt, .int (nI tl), .ref ml, .ref mz, .ref mi, .ref mr, .int (nI at0), .int (nI st0), .int (nI nu), .int (nI rm), .int (nI rh), .ref md, .ref mh])), (mw, .inl (cI, 480, .inl (nA Bw))), (mr, .inl (cI, 6, .inl (nA Rs)))] s.heap.size = A at hD ⊢
  have hA : ∀ q : Nat, s.heap.size ≤ q → A q := fun q h => by rw [← hAe]; exact Or.inr h
  have hS : va_S A s.heap s.heap [] := va_S.rf
  have hP : va_P (dC, dI) vwCl [(m0, .inr (5, [.ref mw, .int (bi im), .ref mt, .int (nI tl), .ref ml, .ref mz, .ref mi, .ref mr, .int (nI at0), .int (nI st0), .int (nI nu), .int (nI rm), .int (nI rh), .ref md, .ref mh])), (mw, .inl (cI, 480, .inl (nA Bw))), (mr, .inl (cI, 6, .inl (nA Rs)))] s.heap := hP
  have hiX5 : ∀ w ∈ wsX50, w ∈ wsX5_unseen := by decide +kernel
  have hl := lv_entry ([.ref m0, .int (nI r), .int (nI ch), .int (nI 0)]) (n := 10) (Nat.le_of_ble_eq_true rfl)
  rw [lg_entry_eq]
  generalize (lg_sl ([.ref m0, .int (nI r), .int (nI ch), .int (nI 0)]) ++ List.replicate (10 - (lg_sl ([.ref m0, .int (nI r), .int (nI ch), .int (nI 0)])).length) Slot.unset).toArray = ls at hl ⊢
  have hl : lv_has ls 10 [(0, .ref m0), (1, .int (nI r)), (2, .int (nI ch)), (3, .int (nI 0))] := hl
  have hn6 := hm.n
  have hrg := rgB_b hm
  have h2n := two_b hn6
  have h10 : 10 ^ Bw 0 ≤ 1000000 := Nat.le_trans (Nat.pow_le_pow_right (by decide) hn6) (by decide)
  have h101 : 1 ≤ 10 ^ Bw 0 := Nat.pow_pos (by decide)
  refine lv_iload_n hx hb dX5_unseen_0 rfl (lv_at hl 1 rfl) ?_
  refine rr_callR (va_runS (As := [.int (nI r)]) (rest := []) ⟨hx, hb, hml, hown, hts⟩ (c_X5_isRegister l (nI r) ) (va_cwS 1 hts gX5_unseen_X5_isRegister rfl rfl rfl (by decide +kernel) ⟨Nat.le_of_ble_eq_true rfl, Nat.le_of_ble_eq_true rfl⟩) rr_preT rfl rfl hl.1 rfl (lv_room (Nat.le_of_ble_eq_true rfl)) dX5_unseen_1 ⟨Nat.zero_le _, Nat.zero_le _⟩) ?_
  refine rr_top (y := bi true) (congrArg bi (inb_lt (by omega) (by omega))) ?_
  refine rb_if_eq (tgt := 29) hx hb dX5_unseen_4 (by decide) (fun c4 => ?_) (fun c4 => ?_)
  · exact absurd c4 (by decide)
  refine lv_iload_n hx hb dX5_unseen_7 rfl (lv_at hl 2 rfl) ?_
  refine lv_i2l hx hb dX5_unseen_8 rfl ?_
  refine lv_lconst (v := 0) hx hb dX5_unseen_9 (by decide) ?_
  refine lv_ldc2 (v := 10) hx hb hown (hts (.constantLong RX5 173 (10)) (by decide +kernel)) dX5_unseen_10 ?_
  refine rr_callR (va_runS (As := [.long ((nI ch).toInt64), .long 0, .long 10]) (rest := []) ⟨hx, hb, hml, hown, hts⟩ (c_X5_in l ((nI ch).toInt64) 0 10 ) (va_cwS 3 hts gX5_unseen_X5_in rfl rfl rfl (by decide +kernel) ⟨Nat.le_of_ble_eq_true rfl, Nat.le_of_ble_eq_true rfl⟩) rr_preT rfl rfl hl.1 rfl (lv_room (Nat.le_of_ble_eq_true rfl)) dX5_unseen_13 ⟨Nat.zero_le _, Nat.zero_le _⟩) ?_
  refine rr_top (y := bi (inb (nI ch) 11)) (congrArg bi (inL_lit (by decide))) ?_
  refine rr_top (y := bi true) (congrArg bi (inb_lt (by omega) (by omega))) ?_
  refine rb_if_eq (tgt := 29) hx hb dX5_unseen_16 (by decide) (fun c16 => ?_) (fun c16 => ?_)
  · exact absurd c16 (by decide)
  refine lv_iload_n hx hb dX5_unseen_19 rfl (lv_at hl 3 rfl) ?_
  refine lv_i2l hx hb dX5_unseen_20 rfl ?_
  refine lv_lconst (v := 0) hx hb dX5_unseen_21 (by decide) ?_
  refine lv_lconst (v := 1) hx hb dX5_unseen_22 (by decide) ?_
  refine rr_callR (va_runS (As := [.long ((nI 0).toInt64), .long 0, .long 1]) (rest := []) ⟨hx, hb, hml, hown, hts⟩ (c_X5_in l ((nI 0).toInt64) 0 1 ) (va_cwS 3 hts gX5_unseen_X5_in rfl rfl rfl (by decide +kernel) ⟨Nat.le_of_ble_eq_true rfl, Nat.le_of_ble_eq_true rfl⟩) rr_preT rfl rfl hl.1 rfl (lv_room (Nat.le_of_ble_eq_true rfl)) dX5_unseen_23 ⟨Nat.zero_le _, Nat.zero_le _⟩) ?_
  refine rr_top (y := bi (inb (nI 0) 2)) (congrArg bi (inL_lit (by decide))) ?_
  refine rr_top (y := bi true) (congrArg bi (inb_lt (by omega) (by omega))) ?_
  refine rb_if_ne (tgt := 31) hx hb dX5_unseen_26 (by decide) (fun c26 => ?_) (fun c26 => ?_)
  rotate_left
  · exact absurd c26 (by decide)
  refine lv_iconst (v := (nI 0)) hx hb dX5_unseen_31 (by decide) ?_
  refine lv_istore (lv' := [(4, .int (nI 0)), (0, .ref m0), (1, .int (nI r)), (2, .int (nI ch)), (3, .int (nI 0))]) hx hb dX5_unseen_32 hl (by decide) rfl (fun ls hl => ?_)
  refine lv_iconst (v := (nI 1)) hx hb dX5_unseen_34 (by decide) ?_
  refine lv_istore (lv' := [(5, .int (nI 1)), (4, .int (nI 0)), (0, .ref m0), (1, .int (nI r)), (2, .int (nI ch)), (3, .int (nI 0))]) hx hb dX5_unseen_35 hl (by decide) rfl (fun ls hl => ?_)
  refine lv_aload_n hx hb dX5_unseen_37 rfl (lv_at hl 2 rfl) ?_
  refine rr_callR (va_runV (As := []) (rest := []) ⟨hx, hb, hml, hown, hts⟩ (c_X5_range l dC dI cI cJ cS m0 mw mt ml mz mi mr md mh im tl at0 st0 nu rm rh Bw (by first | assumption | omega)) (cwV 0 hts gX5_unseen_X5_range rfl rfl rfl (by decide +kernel) ⟨Nat.le_of_ble_eq_true rfl, Nat.le_of_ble_eq_true rfl⟩) (rr_preV hKK (hP.sub [0, 1] rfl) rfl rfl) rfl rfl hl.1 rfl (lv_room (Nat.le_of_ble_eq_true rfl)) dX5_unseen_38 ⟨Nat.zero_le _, Nat.zero_le _⟩) ?_
  refine lv_istore (lv' := [(6, .int (nI (rgB Bw))), (5, .int (nI 1)), (4, .int (nI 0)), (0, .ref m0), (1, .int (nI r)), (2, .int (nI ch)), (3, .int (nI 0))]) hx hb dX5_unseen_41 hl (by decide) rfl (fun ls hl => ?_)
  refine lv_iconst (v := (nI 0)) hx hb dX5_unseen_43 (by decide) ?_
  refine lv_istore (lv' := [(7, .int (nI 0)), (6, .int (nI (rgB Bw))), (5, .int (nI 1)), (4, .int (nI 0)), (0, .ref m0), (1, .int (nI r)), (2, .int (nI ch)), (3, .int (nI 0))]) hx hb dX5_unseen_44 hl (by decide) rfl (fun ls hl => ?_)
  refine rlW1 (A1 := Nat) (fun H locs ls => W p l e _ s m _ below meth c H locs 0 0 _ (F0 m 46 ls [])) (fun k H locs ls => k ≤ Bw 0 ∧ va_P (dC, dI) vwCl [(m0, .inr (5, [.ref mw, .int (bi im), .ref mt, .int (nI tl), .ref ml, .ref mz, .ref mi, .ref mr, .int (nI at0), .int (nI st0), .int (nI nu), .int (nI rm), .int (nI rh), .ref md, .ref mh])), (mw, .inl (cI, 480, .inl (nA Bw))), (mr, .inl (cI, 6, .inl (nA Rs)))] H ∧ va_D A [(m0, .inr (5, [.ref mw, .int (bi im), .ref mt, .int (nI tl), .ref ml, .ref mz, .ref mi, .ref mr, .int (nI at0), .int (nI st0), .int (nI nu), .int (nI rm), .int (nI rh), .ref md, .ref mh])), (mw, .inl (cI, 480, .inl (nA Bw))), (mr, .inl (cI, 6, .inl (nA Rs)))] ∧ va_S A s.heap H locs ∧ lv_has ls 10 [(7, .int (nI k)), (6, .int (nI (rgB Bw))), (5, .int (nI (10 ^ k))), (4, .int (nI 0)), (0, .ref m0), (1, .int (nI r)), (2, .int (nI ch)), (3, .int (nI 0))]) (fun k => Bw 0 - k) ?_ 0 _ _ ls ⟨by omega, hP, hD, hS, lv_sub hl [0, 1, 2, 3, 4, 5, 6, 7] rfl⟩
  rintro k H locs ls ⟨hi, hP, hD, hS, hl⟩ ih46
  refine lv_iload hx hb dX5_unseen_46 (lv_at hl 0 rfl) ?_
  refine lv_aload_n hx hb dX5_unseen_48 rfl (lv_at hl 4 rfl) ?_
  refine va_get (D := (dC, dI)) (ci := 5) (v := .ref mw) (C := RX5) (T := TX5) (N := 15) hx hb hts hiX5 hown hK hP 0 rfl rfl 0 (by decide) (hts (.fieldLink RX5 7 "RestRegistersModel" "w" "[I") (by decide +kernel)) (fun _ h9 => h9) rfl dX5_unseen_49 ?_
  refine lv_iconst (v := (nI 0)) hx hb dX5_unseen_52 (by decide) ?_
  refine rn_iald hx hb hK hP 1 0 rfl rfl (i := 0) (by omega) (by decide) (v := (nI (Bw 0))) rfl dX5_unseen_53 ?_
  refine rn_icmp_ge (tgt := 70) hx hb dX5_unseen_54 (by decide) (by omega) (by omega) (fun c54 => ?_) (fun c54 => ?_)
  · skip
    have ek : k = Bw 0 := Nat.le_antisymm hi c54
    subst ek
    refine lv_iconst (v := (nI 1)) hx hb dX5_unseen_70 (by decide) ?_
    refine lv_istore (lv' := [(7, .int (nI 1)), (6, .int (nI (rgB Bw))), (5, .int (nI (10 ^ Bw 0))), (4, .int (nI 0)), (0, .ref m0), (1, .int (nI r)), (2, .int (nI ch)), (3, .int (nI 0))]) hx hb dX5_unseen_71 hl (by decide) rfl (fun ls hl => ?_)
    refine rlW2 (A1 := Nat) (A2 := Nat → Nat) (fun H locs ls => W p l e _ s m _ below meth c H locs 0 0 _ (F0 m 73 ls [])) (fun o Ra H locs ls => o ≤ 2 ^ Bw 0 ∧ 1 ≤ o ∧ va_P (dC, dI) vwCl [(m0, .inr (5, [.ref mw, .int (bi im), .ref mt, .int (nI tl), .ref ml, .ref mz, .ref mi, .ref mr, .int (nI at0), .int (nI st0), .int (nI nu), .int (nI rm), .int (nI rh), .ref md, .ref mh])), (mw, .inl (cI, 480, .inl (nA Bw))), (mr, .inl (cI, 6, .inl (nA Ra)))] H ∧ va_D A [(m0, .inr (5, [.ref mw, .int (bi im), .ref mt, .int (nI tl), .ref ml, .ref mz, .ref mi, .ref mr, .int (nI at0), .int (nI st0), .int (nI nu), .int (nI rm), .int (nI rh), .ref md, .ref mh])), (mw, .inl (cI, 480, .inl (nA Bw))), (mr, .inl (cI, 6, .inl (nA Ra)))] ∧ va_S A s.heap H locs ∧ lv_has ls 10 [(7, .int (nI o)), (6, .int (nI (rgB Bw))), (5, .int (nI (10 ^ Bw 0))), (4, .int (nI (upN (Bw 0) (wdB Bw) (rwR Bw r) (rgB Bw) ch o))), (0, .ref m0), (1, .int (nI r)), (2, .int (nI ch)), (3, .int (nI 0))]) (fun o Ra => 2 ^ Bw 0 - o) ?_ 1 Rs H locs ls ⟨by omega, by omega, hP, hD, hS, lv_sub hl [0, 1, 2, 3, 4, 5, 6, 7] rfl⟩
    rintro o Ra H locs ls ⟨ho, h1o, hP, hD, hS, hl⟩ ih73
    refine lv_iload hx hb dX5_unseen_73 (lv_at hl 0 rfl) ?_
    refine lv_iconst (v := (nI 1)) hx hb dX5_unseen_75 (by decide) ?_
    refine lv_aload_n hx hb dX5_unseen_76 rfl (lv_at hl 4 rfl) ?_
    refine va_get (D := (dC, dI)) (ci := 5) (v := .ref mw) (C := RX5) (T := TX5) (N := 15) hx hb hts hiX5 hown hK hP 0 rfl rfl 0 (by decide) (hts (.fieldLink RX5 7 "RestRegistersModel" "w" "[I") (by decide +kernel)) (fun _ h9 => h9) rfl dX5_unseen_77 ?_
    refine lv_iconst (v := (nI 0)) hx hb dX5_unseen_80 (by decide) ?_
    refine rn_iald hx hb hK hP 1 0 rfl rfl (i := 0) (by omega) (by decide) (v := (nI (Bw 0))) rfl dX5_unseen_81 ?_
    refine lv_ishl hx hb dX5_unseen_82 ?_
    refine rr_top (y := (nI (2 ^ Bw 0))) (shl_eq (by omega)) ?_
    refine rn_icmp_ge (tgt := 210) hx hb dX5_unseen_83 (by decide) (by omega) (by omega) (fun c83 => ?_) (fun c83 => ?_)
    · skip
      have eo : o = 2 ^ Bw 0 := Nat.le_antisymm ho c83
      subst eo
      have hup := upN_le hn6 (wdB Bw) (rwR Bw r) (rgB Bw) hc2 (2 ^ Bw 0)
      have hup2 : upN (Bw 0) (wdB Bw) (rwR Bw r) (rgB Bw) ch (2 ^ Bw 0) < 2 ^ 31 := Nat.lt_of_le_of_lt hup (Nat.lt_of_le_of_lt (Nat.mul_le_mul_right 1000000 h2n.2) (by decide))
      have hg0 : 0 < Nat.gcd (upN (Bw 0) (wdB Bw) (rwR Bw r) (rgB Bw) ch (2 ^ Bw 0)) (10 ^ Bw 0) := Nat.gcd_pos_of_pos_right _ h101
      have hgl : Nat.gcd (upN (Bw 0) (wdB Bw) (rwR Bw r) (rgB Bw) ch (2 ^ Bw 0)) (10 ^ Bw 0) ≤ 10 ^ Bw 0 := Nat.gcd_le_right _ h101
      refine lv_iload hx hb dX5_unseen_210 (lv_at hl 3 rfl) ?_
      refine lv_iload hx hb dX5_unseen_212 (lv_at hl 2 rfl) ?_
      refine rr_callR (va_runS (As := [.int (nI (upN (Bw 0) (wdB Bw) (rwR Bw r) (rgB Bw) ch (2 ^ Bw 0))), .int (nI (10 ^ Bw 0))]) (rest := []) ⟨hx, hb, hml, hown, hts⟩ (c_X5_divisor l (upN (Bw 0) (wdB Bw) (rwR Bw r) (rgB Bw) ch (2 ^ Bw 0)) (10 ^ Bw 0) (hup2) (by first | assumption | omega)) (va_cwS 2 hts gX5_unseen_X5_divisor rfl rfl rfl (by decide +kernel) ⟨Nat.le_of_ble_eq_true rfl, Nat.le_of_ble_eq_true rfl⟩) rr_preT rfl rfl hl.1 rfl (lv_room (Nat.le_of_ble_eq_true rfl)) dX5_unseen_214 ⟨Nat.zero_le _, Nat.zero_le _⟩) ?_
      refine lv_istore (lv' := [(7, .int (nI (Nat.gcd (upN (Bw 0) (wdB Bw) (rwR Bw r) (rgB Bw) ch (2 ^ Bw 0)) (10 ^ Bw 0)))), (6, .int (nI (rgB Bw))), (5, .int (nI (10 ^ Bw 0))), (4, .int (nI (upN (Bw 0) (wdB Bw) (rwR Bw r) (rgB Bw) ch (2 ^ Bw 0)))), (0, .ref m0), (1, .int (nI r)), (2, .int (nI ch)), (3, .int (nI 0))]) hx hb dX5_unseen_217 hl (by decide) rfl (fun ls hl => ?_)
      refine lv_iload_n hx hb dX5_unseen_219 rfl (lv_at hl 7 rfl) ?_
      refine rn_if_ne (tgt := 231) hx hb dX5_unseen_220 (by decide) (by omega) (fun c220 => ?_) (fun c220 => ?_)
      · skip
        exact absurd rfl c220
      refine lv_iload hx hb dX5_unseen_223 (lv_at hl 3 rfl) ?_
      refine lv_iload hx hb dX5_unseen_225 (lv_at hl 0 rfl) ?_
      refine rn_idiv hx hb dX5_unseen_227 hup2 hg0 (by omega) ?_
      refine lv_goto (tgt := 236) hx hb dX5_unseen_228 (by decide) ?_
      exact rr_iretWs (u := Ra) hx hb hr hlocks dX5_unseen_236 hP hD hS (rfl)
    refine lv_iconst (v := (nI 1)) hx hb dX5_unseen_86 (by decide) ?_
    refine lv_istore (lv' := [(8, .int (nI 1)), (7, .int (nI o)), (6, .int (nI (rgB Bw))), (5, .int (nI (10 ^ Bw 0))), (4, .int (nI (upN (Bw 0) (wdB Bw) (rwR Bw r) (rgB Bw) ch o))), (0, .ref m0), (1, .int (nI r)), (2, .int (nI ch)), (3, .int (nI 0))]) hx hb dX5_unseen_87 hl (by decide) rfl (fun ls hl => ?_)
    refine lv_aload_n hx hb dX5_unseen_89 rfl (lv_at hl 5 rfl) ?_
    refine lv_iload_n hx hb dX5_unseen_90 rfl (lv_at hl 6 rfl) ?_
    refine rw_callv (va_runV (As := [.int (nI r)]) (rest := []) ⟨hx, hb, hml, hown, hts⟩ (c_X5_looks l dC dI cI cJ cS _ m0 mw mt ml mz mi mr md mh im tl at0 st0 nu rm rh Bw Ra r (by first | assumption | omega)) (cwV 1 hts gX5_unseen_X5_looks rfl rfl rfl (by decide +kernel) ⟨Nat.le_of_ble_eq_true rfl, Nat.le_of_ble_eq_true rfl⟩) (rw_preV hKK hP hD rfl rfl) rfl rfl hl.1 rfl (lv_room (Nat.le_of_ble_eq_true rfl)) dX5_unseen_91 ⟨Nat.zero_le _, Nat.zero_le _⟩) (wr := []) hP hD hS hA [0, 1, 2] [] rfl rfl (by decide) (by decide) (fun H locs hP hD hS => ?_)
    have hP : va_P (dC, dI) vwCl [(m0, .inr (5, [.ref mw, .int (bi im), .ref mt, .int (nI tl), .ref ml, .ref mz, .ref mi, .ref mr, .int (nI at0), .int (nI st0), .int (nI nu), .int (nI rm), .int (nI rh), .ref md, .ref mh])), (mw, .inl (cI, 480, .inl (nA Bw))), (mr, .inl (cI, 6, .inl (nA (lkN Bw r 6 Ra))))] H := hP.sub [0, 1, 2] rfl
    have hD : va_D A [(m0, .inr (5, [.ref mw, .int (bi im), .ref mt, .int (nI tl), .ref ml, .ref mz, .ref mi, .ref mr, .int (nI at0), .int (nI st0), .int (nI nu), .int (nI rm), .int (nI rh), .ref md, .ref mh])), (mw, .inl (cI, 480, .inl (nA Bw))), (mr, .inl (cI, 6, .inl (nA (lkN Bw r 6 Ra))))] := hD.sub [0, 1, 2] (by decide) rfl
    refine lv_iconst (v := (nI 0)) hx hb dX5_unseen_94 (by decide) ?_
    refine lv_istore (lv' := [(9, .int (nI 0)), (8, .int (nI 1)), (7, .int (nI o)), (6, .int (nI (rgB Bw))), (5, .int (nI (10 ^ Bw 0))), (4, .int (nI (upN (Bw 0) (wdB Bw) (rwR Bw r) (rgB Bw) ch o))), (0, .ref m0), (1, .int (nI r)), (2, .int (nI ch)), (3, .int (nI 0))]) hx hb dX5_unseen_95 hl (by decide) rfl (fun ls hl => ?_)
    have ec : nA (lkN Bw r 6 Ra) = nA (tkN (wdB Bw) (rwR Bw r) o 0 (lkN Bw r 6 Ra)) := tkN_0 _ _ _ _
    rw [ec] at hP hD
    have hP : va_P (dC, dI) vwCl [(m0, .inr (5, [.ref mw, .int (bi im), .ref mt, .int (nI tl), .ref ml, .ref mz, .ref mi, .ref mr, .int (nI at0), .int (nI st0), .int (nI nu), .int (nI rm), .int (nI rh), .ref md, .ref mh])), (mw, .inl (cI, 480, .inl (nA Bw))), (mr, .inl (cI, 6, .inl (nA (tkN (wdB Bw) (rwR Bw r) o 0 (lkN Bw r 6 Ra)))))] H := hP
    have hD : va_D A [(m0, .inr (5, [.ref mw, .int (bi im), .ref mt, .int (nI tl), .ref ml, .ref mz, .ref mi, .ref mr, .int (nI at0), .int (nI st0), .int (nI nu), .int (nI rm), .int (nI rh), .ref md, .ref mh])), (mw, .inl (cI, 480, .inl (nA Bw))), (mr, .inl (cI, 6, .inl (nA (tkN (wdB Bw) (rwR Bw r) o 0 (lkN Bw r 6 Ra)))))] := hD
    refine rlW1 (A1 := Nat) (fun H locs ls => W p l e _ s m _ below meth c H locs 0 0 _ (F0 m 97 ls [])) (fun k H locs ls => k ≤ Bw 0 ∧ va_P (dC, dI) vwCl [(m0, .inr (5, [.ref mw, .int (bi im), .ref mt, .int (nI tl), .ref ml, .ref mz, .ref mi, .ref mr, .int (nI at0), .int (nI st0), .int (nI nu), .int (nI rm), .int (nI rh), .ref md, .ref mh])), (mw, .inl (cI, 480, .inl (nA Bw))), (mr, .inl (cI, 6, .inl (nA (tkN (wdB Bw) (rwR Bw r) o k (lkN Bw r 6 Ra)))))] H ∧ va_D A [(m0, .inr (5, [.ref mw, .int (bi im), .ref mt, .int (nI tl), .ref ml, .ref mz, .ref mi, .ref mr, .int (nI at0), .int (nI st0), .int (nI nu), .int (nI rm), .int (nI rh), .ref md, .ref mh])), (mw, .inl (cI, 480, .inl (nA Bw))), (mr, .inl (cI, 6, .inl (nA (tkN (wdB Bw) (rwR Bw r) o k (lkN Bw r 6 Ra)))))] ∧ va_S A s.heap H locs ∧ lv_has ls 10 [(9, .int (nI k)), (8, .int (nI (wyN ch o k))), (7, .int (nI o)), (6, .int (nI (rgB Bw))), (5, .int (nI (10 ^ Bw 0))), (4, .int (nI (upN (Bw 0) (wdB Bw) (rwR Bw r) (rgB Bw) ch o))), (0, .ref m0), (1, .int (nI r)), (2, .int (nI ch)), (3, .int (nI 0))]) (fun k => Bw 0 - k) ?_ 0 H locs ls ⟨by omega, hP, hD, hS, lv_sub hl [0, 1, 2, 3, 4, 5, 6, 7, 8, 9] rfl⟩
    rintro k H locs ls ⟨hk2, hP, hD, hS, hl⟩ ih97
    refine lv_iload hx hb dX5_unseen_97 (lv_at hl 0 rfl) ?_
    refine lv_aload_n hx hb dX5_unseen_99 rfl (lv_at hl 6 rfl) ?_
    refine va_get (D := (dC, dI)) (ci := 5) (v := .ref mw) (C := RX5) (T := TX5) (N := 15) hx hb hts hiX5 hown hK hP 0 rfl rfl 0 (by decide) (hts (.fieldLink RX5 7 "RestRegistersModel" "w" "[I") (by decide +kernel)) (fun _ h9 => h9) rfl dX5_unseen_100 ?_
    refine lv_iconst (v := (nI 0)) hx hb dX5_unseen_103 (by decide) ?_
    refine rn_iald hx hb hK hP 1 0 rfl rfl (i := 0) (by omega) (by decide) (v := (nI (Bw 0))) rfl dX5_unseen_104 ?_
    refine rn_icmp_ge (tgt := 184) hx hb dX5_unseen_105 (by decide) (by omega) (by omega) (fun c105 => ?_) (fun c105 => ?_)
    · skip
      have ek : k = Bw 0 := Nat.le_antisymm hk2 c105
      subst ek
      have hP : va_P (dC, dI) vwCl [(m0, .inr (5, [.ref mw, .int (bi im), .ref mt, .int (nI tl), .ref ml, .ref mz, .ref mi, .ref mr, .int (nI at0), .int (nI st0), .int (nI nu), .int (nI rm), .int (nI rh), .ref md, .ref mh])), (mw, .inl (cI, 480, .inl (nA Bw))), (mr, .inl (cI, 6, .inl (nA (tkN (wdB Bw) (rwR Bw r) o (Bw 0) (lkN Bw r 6 Ra)))))] H := hP
      have hD : va_D A [(m0, .inr (5, [.ref mw, .int (bi im), .ref mt, .int (nI tl), .ref ml, .ref mz, .ref mi, .ref mr, .int (nI at0), .int (nI st0), .int (nI nu), .int (nI rm), .int (nI rh), .ref md, .ref mh])), (mw, .inl (cI, 480, .inl (nA Bw))), (mr, .inl (cI, 6, .inl (nA (tkN (wdB Bw) (rwR Bw r) o (Bw 0) (lkN Bw r 6 Ra)))))] := hD
      have htr : ∀ j, j < Bw 0 → trN (wdB Bw) (rwR Bw r) o j < wdB Bw j := fun j hj => by have z1 := hm.wd j hj; have z2 : rwR Bw r j < wdB Bw j := hm.row hr4 j hj; unfold trN; split; exact Nat.mod_lt _ (by omega); exact z2
      have hvl := Val_lt hm.w htr (Nat.le_refl _)
      have hsb := spB_b hm
      have hsb2 : prW (wdB Bw) (Bw 0) = spB Bw := rfl
      refine lv_iload hx hb dX5_unseen_184 (lv_at hl 5 rfl) ?_
      refine lv_aload_n hx hb dX5_unseen_186 rfl (lv_at hl 6 rfl) ?_
      refine rr_callR (va_runV (As := []) (rest := [.int (nI (upN (Bw 0) (wdB Bw) (rwR Bw r) (rgB Bw) ch o))]) ⟨hx, hb, hml, hown, hts⟩ (c_X5_valueOf l dC dI cI cJ cS m0 mw mt ml mz mi mr md mh im tl at0 st0 nu rm rh Bw (tkN (wdB Bw) (rwR Bw r) o (Bw 0) (lkN Bw r 6 Ra)) (by first | assumption | omega) (fun j hj => by rw [show tkN (wdB Bw) (rwR Bw r) o (Bw 0) (lkN Bw r 6 Ra) j = trN (wdB Bw) (rwR Bw r) o j from if_pos hj]; exact htr j hj)) (cwV 0 hts gX5_unseen_X5_valueOf rfl rfl rfl (by decide +kernel) ⟨Nat.le_of_ble_eq_true rfl, Nat.le_of_ble_eq_true rfl⟩) (rr_preV hKK hP rfl rfl) rfl rfl hl.1 rfl (lv_room (Nat.le_of_ble_eq_true rfl)) dX5_unseen_187 ⟨Nat.zero_le _, Nat.zero_le _⟩) ?_
      refine rn_top (y := Val (Bw 0) (wdB Bw) (trN (wdB Bw) (rwR Bw r) o)) (tk_val) ?_
      refine lv_iload hx hb dX5_unseen_190 (lv_at hl 3 rfl) ?_
      refine rn_icmp_ge (tgt := 200) hx hb dX5_unseen_192 (by decide) (by omega) (by omega) (fun c192 => ?_) (fun c192 => ?_)
      · skip
        refine lv_iconst (v := (nI 0)) hx hb dX5_unseen_200 (by decide) ?_
        refine rn_iadd hx hb dX5_unseen_201 ?_
        refine rn_top (y := upN (Bw 0) (wdB Bw) (rwR Bw r) (rgB Bw) ch (o + 1)) (by rw [upN, if_neg (by omega)]; first | (rw [if_pos c192]; done) | (rw [if_neg (Nat.not_lt.mpr c192)])) ?_
        refine lv_istore (lv' := [(4, .int (nI (upN (Bw 0) (wdB Bw) (rwR Bw r) (rgB Bw) ch (o + 1)))), (9, .int (nI (Bw 0))), (8, .int (nI (wyN ch o (Bw 0)))), (7, .int (nI o)), (6, .int (nI (rgB Bw))), (5, .int (nI (10 ^ Bw 0))), (0, .ref m0), (1, .int (nI r)), (2, .int (nI ch)), (3, .int (nI 0))]) hx hb dX5_unseen_202 hl (by decide) rfl (fun ls hl => ?_)
        refine lv_iinc (v := (nI (o + 1))) (lv' := [(7, .int (nI (o + 1))), (4, .int (nI (upN (Bw 0) (wdB Bw) (rwR Bw r) (rgB Bw) ch (o + 1)))), (9, .int (nI (Bw 0))), (8, .int (nI (wyN ch o (Bw 0)))), (6, .int (nI (rgB Bw))), (5, .int (nI (10 ^ Bw 0))), (0, .ref m0), (1, .int (nI r)), (2, .int (nI ch)), (3, .int (nI 0))]) hx hb dX5_unseen_204 hl (k := 3) rfl (rn_inc o 1) (by decide) rfl (fun ls hl => ?_)
        refine lv_goto (tgt := 73) hx hb dX5_unseen_207 (by decide) ?_
        exact ih73 (o + 1) (tkN (wdB Bw) (rwR Bw r) o (Bw 0) (lkN Bw r 6 Ra)) _ _ ls ⟨by omega, by omega, hP, hD, hS, lv_sub hl [0, 4, 5, 1, 6, 7, 8, 9] rfl⟩ (by omega)
      refine lv_iload hx hb dX5_unseen_195 (lv_at hl 1 rfl) ?_
      refine lv_goto (tgt := 201) hx hb dX5_unseen_197 (by decide) ?_
      refine rn_iadd hx hb dX5_unseen_201 ?_
      refine rn_top (y := upN (Bw 0) (wdB Bw) (rwR Bw r) (rgB Bw) ch (o + 1)) (by rw [upN, if_neg (by omega)]; first | (rw [if_pos c192]; done) | (rw [if_neg (Nat.not_lt.mpr c192)])) ?_
      refine lv_istore (lv' := [(4, .int (nI (upN (Bw 0) (wdB Bw) (rwR Bw r) (rgB Bw) ch (o + 1)))), (9, .int (nI (Bw 0))), (8, .int (nI (wyN ch o (Bw 0)))), (7, .int (nI o)), (6, .int (nI (rgB Bw))), (5, .int (nI (10 ^ Bw 0))), (0, .ref m0), (1, .int (nI r)), (2, .int (nI ch)), (3, .int (nI 0))]) hx hb dX5_unseen_202 hl (by decide) rfl (fun ls hl => ?_)
      refine lv_iinc (v := (nI (o + 1))) (lv' := [(7, .int (nI (o + 1))), (4, .int (nI (upN (Bw 0) (wdB Bw) (rwR Bw r) (rgB Bw) ch (o + 1)))), (9, .int (nI (Bw 0))), (8, .int (nI (wyN ch o (Bw 0)))), (6, .int (nI (rgB Bw))), (5, .int (nI (10 ^ Bw 0))), (0, .ref m0), (1, .int (nI r)), (2, .int (nI ch)), (3, .int (nI 0))]) hx hb dX5_unseen_204 hl (k := 3) rfl (rn_inc o 1) (by decide) rfl (fun ls hl => ?_)
      refine lv_goto (tgt := 73) hx hb dX5_unseen_207 (by decide) ?_
      exact ih73 (o + 1) (tkN (wdB Bw) (rwR Bw r) o (Bw 0) (lkN Bw r 6 Ra)) _ _ ls ⟨by omega, by omega, hP, hD, hS, lv_sub hl [0, 4, 5, 1, 6, 7, 8, 9] rfl⟩ (by omega)
    refine lv_iload hx hb dX5_unseen_108 (lv_at hl 1 rfl) ?_
    refine lv_iload hx hb dX5_unseen_110 (lv_at hl 2 rfl) ?_
    refine lv_iload hx hb dX5_unseen_112 (lv_at hl 0 rfl) ?_
    refine rr_callR (va_runS (As := [.int (nI o), .int (nI k)]) (rest := [.int (nI (wyN ch o k))]) ⟨hx, hb, hml, hown, hts⟩ (c_X5_has l o k (by first | assumption | omega) (by first | assumption | omega)) (va_cwS 2 hts gX5_unseen_X5_has rfl rfl rfl (by decide +kernel) ⟨Nat.le_of_ble_eq_true rfl, Nat.le_of_ble_eq_true rfl⟩) rr_preT rfl rfl hl.1 rfl (lv_room (Nat.le_of_ble_eq_true rfl)) dX5_unseen_114 ⟨Nat.zero_le _, Nat.zero_le _⟩) ?_
    refine rb_if_eq (tgt := 124) hx hb dX5_unseen_117 (by decide) (fun c117 => ?_) (fun c117 => ?_)
    · skip
      refine lv_bipush (v := (nI 10)) hx hb dX5_unseen_124 (by decide) ?_
      refine lv_iload_n hx hb dX5_unseen_126 rfl (lv_at hl 8 rfl) ?_
      refine rn_isub hx hb dX5_unseen_127 (by omega) ?_
      refine rn_imul hx hb dX5_unseen_128 ?_
      refine rn_top (y := wyN ch o (k + 1)) (by rw [wyN, c117]; rfl) ?_
      refine lv_istore (lv' := [(8, .int (nI (wyN ch o (k + 1)))), (9, .int (nI k)), (7, .int (nI o)), (6, .int (nI (rgB Bw))), (5, .int (nI (10 ^ Bw 0))), (4, .int (nI (upN (Bw 0) (wdB Bw) (rwR Bw r) (rgB Bw) ch o))), (0, .ref m0), (1, .int (nI r)), (2, .int (nI ch)), (3, .int (nI 0))]) hx hb dX5_unseen_129 hl (by decide) rfl (fun ls hl => ?_)
      refine lv_aload_n hx hb dX5_unseen_131 rfl (lv_at hl 6 rfl) ?_
      refine va_get (D := (dC, dI)) (ci := 5) (v := .ref mr) (C := RX5) (T := TX5) (N := 15) hx hb hts hiX5 hown hK hP 0 rfl rfl 7 (by decide) (hts (.fieldLink RX5 26 "RestRegistersModel" "rests" "[I") (by decide +kernel)) (fun _ h9 => h9) rfl dX5_unseen_132 ?_
      refine lv_iload hx hb dX5_unseen_135 (lv_at hl 1 rfl) ?_
      refine lv_iload hx hb dX5_unseen_137 (lv_at hl 2 rfl) ?_
      refine lv_iload hx hb dX5_unseen_139 (lv_at hl 1 rfl) ?_
      refine rr_callR (va_runS (As := [.int (nI o), .int (nI k)]) (rest := [.int (nI k), .ref mr]) ⟨hx, hb, hml, hown, hts⟩ (c_X5_has l o k (by first | assumption | omega) (by first | assumption | omega)) (va_cwS 2 hts gX5_unseen_X5_has rfl rfl rfl (by decide +kernel) ⟨Nat.le_of_ble_eq_true rfl, Nat.le_of_ble_eq_true rfl⟩) rr_preT rfl rfl hl.1 rfl (lv_room (Nat.le_of_ble_eq_true rfl)) dX5_unseen_141 ⟨Nat.zero_le _, Nat.zero_le _⟩) ?_
      refine rb_if_eq (tgt := 170) hx hb dX5_unseen_144 (by decide) (fun c144 => ?_) (fun c144 => ?_)
      · skip
        refine lv_aload_n hx hb dX5_unseen_170 rfl (lv_at hl 6 rfl) ?_
        refine va_get (D := (dC, dI)) (ci := 5) (v := .ref mr) (C := RX5) (T := TX5) (N := 15) hx hb hts hiX5 hown hK hP 0 rfl rfl 7 (by decide) (hts (.fieldLink RX5 26 "RestRegistersModel" "rests" "[I") (by decide +kernel)) (fun _ h9 => h9) rfl dX5_unseen_171 ?_
        refine lv_iload hx hb dX5_unseen_174 (lv_at hl 1 rfl) ?_
        refine rn_iald hx hb hK hP 2 0 rfl rfl (i := k) (by omega) (by decide) (v := (nI ((tkN (wdB Bw) (rwR Bw r) o k (lkN Bw r 6 Ra)) k))) rfl dX5_unseen_176 ?_
        refine rn_top (y := trN (wdB Bw) (rwR Bw r) o k) (by unfold trN; rw [if_neg (by rw [c144]; decide)]; exact tkN_at.trans (lk_at (by omega))) ?_
        refine rn_iast hx hb hK hP hD hS 2 0 rfl rfl (i := k) (by omega) (by decide) (g := nA (uN (tkN (wdB Bw) (rwR Bw r) o k (lkN Bw r 6 Ra)) k (trN (wdB Bw) (rwR Bw r) o k))) (nA_upd _ _ _) dX5_unseen_177 (fun H locs hP hD hS => ?_)
        have hP : va_P (dC, dI) vwCl [(m0, .inr (5, [.ref mw, .int (bi im), .ref mt, .int (nI tl), .ref ml, .ref mz, .ref mi, .ref mr, .int (nI at0), .int (nI st0), .int (nI nu), .int (nI rm), .int (nI rh), .ref md, .ref mh])), (mw, .inl (cI, 480, .inl (nA Bw))), (mr, .inl (cI, 6, .inl (nA (uN (tkN (wdB Bw) (rwR Bw r) o k (lkN Bw r 6 Ra)) k (trN (wdB Bw) (rwR Bw r) o k)))))] H := hP
        have hD : va_D A [(m0, .inr (5, [.ref mw, .int (bi im), .ref mt, .int (nI tl), .ref ml, .ref mz, .ref mi, .ref mr, .int (nI at0), .int (nI st0), .int (nI nu), .int (nI rm), .int (nI rh), .ref md, .ref mh])), (mw, .inl (cI, 480, .inl (nA Bw))), (mr, .inl (cI, 6, .inl (nA (uN (tkN (wdB Bw) (rwR Bw r) o k (lkN Bw r 6 Ra)) k (trN (wdB Bw) (rwR Bw r) o k)))))] := hD
        have ec : nA (uN (tkN (wdB Bw) (rwR Bw r) o k (lkN Bw r 6 Ra)) k (trN (wdB Bw) (rwR Bw r) o k)) = nA (tkN (wdB Bw) (rwR Bw r) o (k + 1) (lkN Bw r 6 Ra)) := tkN_s rfl
        rw [ec] at hP hD
        have hP : va_P (dC, dI) vwCl [(m0, .inr (5, [.ref mw, .int (bi im), .ref mt, .int (nI tl), .ref ml, .ref mz, .ref mi, .ref mr, .int (nI at0), .int (nI st0), .int (nI nu), .int (nI rm), .int (nI rh), .ref md, .ref mh])), (mw, .inl (cI, 480, .inl (nA Bw))), (mr, .inl (cI, 6, .inl (nA (tkN (wdB Bw) (rwR Bw r) o (k + 1) (lkN Bw r 6 Ra)))))] H := hP
        have hD : va_D A [(m0, .inr (5, [.ref mw, .int (bi im), .ref mt, .int (nI tl), .ref ml, .ref mz, .ref mi, .ref mr, .int (nI at0), .int (nI st0), .int (nI nu), .int (nI rm), .int (nI rh), .ref md, .ref mh])), (mw, .inl (cI, 480, .inl (nA Bw))), (mr, .inl (cI, 6, .inl (nA (tkN (wdB Bw) (rwR Bw r) o (k + 1) (lkN Bw r 6 Ra)))))] := hD
        refine lv_iinc (v := (nI (k + 1))) (lv' := [(9, .int (nI (k + 1))), (8, .int (nI (wyN ch o (k + 1)))), (7, .int (nI o)), (6, .int (nI (rgB Bw))), (5, .int (nI (10 ^ Bw 0))), (4, .int (nI (upN (Bw 0) (wdB Bw) (rwR Bw r) (rgB Bw) ch o))), (0, .ref m0), (1, .int (nI r)), (2, .int (nI ch)), (3, .int (nI 0))]) hx hb dX5_unseen_178 hl (k := 1) rfl (rn_inc k 1) (by decide) rfl (fun ls hl => ?_)
        refine lv_goto (tgt := 97) hx hb dX5_unseen_181 (by decide) ?_
        exact ih97 (k + 1) _ _ ls ⟨by omega, hP, hD, hS, lv_sub hl [0, 1, 2, 3, 4, 5, 6, 7, 8, 9] rfl⟩ (by omega)
      exact absurd (c117.symm.trans c144) (by decide)
    refine lv_iload_n hx hb dX5_unseen_120 rfl (lv_at hl 8 rfl) ?_
    refine lv_goto (tgt := 128) hx hb dX5_unseen_121 (by decide) ?_
    refine rn_imul hx hb dX5_unseen_128 ?_
    refine rn_top (y := wyN ch o (k + 1)) (by rw [wyN, c117]; rfl) ?_
    refine lv_istore (lv' := [(8, .int (nI (wyN ch o (k + 1)))), (9, .int (nI k)), (7, .int (nI o)), (6, .int (nI (rgB Bw))), (5, .int (nI (10 ^ Bw 0))), (4, .int (nI (upN (Bw 0) (wdB Bw) (rwR Bw r) (rgB Bw) ch o))), (0, .ref m0), (1, .int (nI r)), (2, .int (nI ch)), (3, .int (nI 0))]) hx hb dX5_unseen_129 hl (by decide) rfl (fun ls hl => ?_)
    refine lv_aload_n hx hb dX5_unseen_131 rfl (lv_at hl 6 rfl) ?_
    refine va_get (D := (dC, dI)) (ci := 5) (v := .ref mr) (C := RX5) (T := TX5) (N := 15) hx hb hts hiX5 hown hK hP 0 rfl rfl 7 (by decide) (hts (.fieldLink RX5 26 "RestRegistersModel" "rests" "[I") (by decide +kernel)) (fun _ h9 => h9) rfl dX5_unseen_132 ?_
    refine lv_iload hx hb dX5_unseen_135 (lv_at hl 1 rfl) ?_
    refine lv_iload hx hb dX5_unseen_137 (lv_at hl 2 rfl) ?_
    refine lv_iload hx hb dX5_unseen_139 (lv_at hl 1 rfl) ?_
    refine rr_callR (va_runS (As := [.int (nI o), .int (nI k)]) (rest := [.int (nI k), .ref mr]) ⟨hx, hb, hml, hown, hts⟩ (c_X5_has l o k (by first | assumption | omega) (by first | assumption | omega)) (va_cwS 2 hts gX5_unseen_X5_has rfl rfl rfl (by decide +kernel) ⟨Nat.le_of_ble_eq_true rfl, Nat.le_of_ble_eq_true rfl⟩) rr_preT rfl rfl hl.1 rfl (lv_room (Nat.le_of_ble_eq_true rfl)) dX5_unseen_141 ⟨Nat.zero_le _, Nat.zero_le _⟩) ?_
    refine rb_if_eq (tgt := 170) hx hb dX5_unseen_144 (by decide) (fun c144 => ?_) (fun c144 => ?_)
    · skip
      exact absurd (c117.symm.trans c144) (by decide)
    refine lv_aload_n hx hb dX5_unseen_147 rfl (lv_at hl 6 rfl) ?_
    refine va_get (D := (dC, dI)) (ci := 5) (v := .ref mr) (C := RX5) (T := TX5) (N := 15) hx hb hts hiX5 hown hK hP 0 rfl rfl 7 (by decide) (hts (.fieldLink RX5 26 "RestRegistersModel" "rests" "[I") (by decide +kernel)) (fun _ h9 => h9) rfl dX5_unseen_148 ?_
    refine lv_iload hx hb dX5_unseen_151 (lv_at hl 1 rfl) ?_
    refine rn_iald hx hb hK hP 2 0 rfl rfl (i := k) (by omega) (by decide) (v := (nI ((tkN (wdB Bw) (rwR Bw r) o k (lkN Bw r 6 Ra)) k))) rfl dX5_unseen_153 ?_
    refine rn_top (y := rwR Bw r k) (tkN_at.trans (lk_at (by omega))) ?_
    have hrw : rwR Bw r k < wdB Bw k := hm.row hr4 k (by omega)
    refine lv_iconst (v := (nI 1)) hx hb dX5_unseen_154 (by decide) ?_
    refine rn_iadd hx hb dX5_unseen_155 ?_
    refine lv_aload_n hx hb dX5_unseen_156 rfl (lv_at hl 6 rfl) ?_
    refine va_get (D := (dC, dI)) (ci := 5) (v := .ref mw) (C := RX5) (T := TX5) (N := 15) hx hb hts hiX5 hown hK hP 0 rfl rfl 0 (by decide) (hts (.fieldLink RX5 7 "RestRegistersModel" "w" "[I") (by decide +kernel)) (fun _ h9 => h9) rfl dX5_unseen_157 ?_
    refine lv_bipush (v := (nI 8)) hx hb dX5_unseen_160 (by decide) ?_
    refine lv_iload hx hb dX5_unseen_162 (lv_at hl 1 rfl) ?_
    refine rn_iadd hx hb dX5_unseen_164 ?_
    refine rn_iald hx hb hK hP 1 0 rfl rfl (i := 8 + k) (by omega) (by decide) (v := (nI (wdB Bw k))) rfl dX5_unseen_165 ?_
    have hv165 := hm.wd k (by omega)
    refine rn_irem hx hb dX5_unseen_166 (by omega) (by omega) (by omega) ?_
    refine lv_goto (tgt := 177) hx hb dX5_unseen_167 (by decide) ?_
    refine rn_top (y := trN (wdB Bw) (rwR Bw r) o k) (by unfold trN; rw [if_pos c144]) ?_
    refine rn_iast hx hb hK hP hD hS 2 0 rfl rfl (i := k) (by omega) (by decide) (g := nA (uN (tkN (wdB Bw) (rwR Bw r) o k (lkN Bw r 6 Ra)) k (trN (wdB Bw) (rwR Bw r) o k))) (nA_upd _ _ _) dX5_unseen_177 (fun H locs hP hD hS => ?_)
    have hP : va_P (dC, dI) vwCl [(m0, .inr (5, [.ref mw, .int (bi im), .ref mt, .int (nI tl), .ref ml, .ref mz, .ref mi, .ref mr, .int (nI at0), .int (nI st0), .int (nI nu), .int (nI rm), .int (nI rh), .ref md, .ref mh])), (mw, .inl (cI, 480, .inl (nA Bw))), (mr, .inl (cI, 6, .inl (nA (uN (tkN (wdB Bw) (rwR Bw r) o k (lkN Bw r 6 Ra)) k (trN (wdB Bw) (rwR Bw r) o k)))))] H := hP
    have hD : va_D A [(m0, .inr (5, [.ref mw, .int (bi im), .ref mt, .int (nI tl), .ref ml, .ref mz, .ref mi, .ref mr, .int (nI at0), .int (nI st0), .int (nI nu), .int (nI rm), .int (nI rh), .ref md, .ref mh])), (mw, .inl (cI, 480, .inl (nA Bw))), (mr, .inl (cI, 6, .inl (nA (uN (tkN (wdB Bw) (rwR Bw r) o k (lkN Bw r 6 Ra)) k (trN (wdB Bw) (rwR Bw r) o k)))))] := hD
    have ec : nA (uN (tkN (wdB Bw) (rwR Bw r) o k (lkN Bw r 6 Ra)) k (trN (wdB Bw) (rwR Bw r) o k)) = nA (tkN (wdB Bw) (rwR Bw r) o (k + 1) (lkN Bw r 6 Ra)) := tkN_s rfl
    rw [ec] at hP hD
    have hP : va_P (dC, dI) vwCl [(m0, .inr (5, [.ref mw, .int (bi im), .ref mt, .int (nI tl), .ref ml, .ref mz, .ref mi, .ref mr, .int (nI at0), .int (nI st0), .int (nI nu), .int (nI rm), .int (nI rh), .ref md, .ref mh])), (mw, .inl (cI, 480, .inl (nA Bw))), (mr, .inl (cI, 6, .inl (nA (tkN (wdB Bw) (rwR Bw r) o (k + 1) (lkN Bw r 6 Ra)))))] H := hP
    have hD : va_D A [(m0, .inr (5, [.ref mw, .int (bi im), .ref mt, .int (nI tl), .ref ml, .ref mz, .ref mi, .ref mr, .int (nI at0), .int (nI st0), .int (nI nu), .int (nI rm), .int (nI rh), .ref md, .ref mh])), (mw, .inl (cI, 480, .inl (nA Bw))), (mr, .inl (cI, 6, .inl (nA (tkN (wdB Bw) (rwR Bw r) o (k + 1) (lkN Bw r 6 Ra)))))] := hD
    refine lv_iinc (v := (nI (k + 1))) (lv' := [(9, .int (nI (k + 1))), (8, .int (nI (wyN ch o (k + 1)))), (7, .int (nI o)), (6, .int (nI (rgB Bw))), (5, .int (nI (10 ^ Bw 0))), (4, .int (nI (upN (Bw 0) (wdB Bw) (rwR Bw r) (rgB Bw) ch o))), (0, .ref m0), (1, .int (nI r)), (2, .int (nI ch)), (3, .int (nI 0))]) hx hb dX5_unseen_178 hl (k := 1) rfl (rn_inc k 1) (by decide) rfl (fun ls hl => ?_)
    refine lv_goto (tgt := 97) hx hb dX5_unseen_181 (by decide) ?_
    exact ih97 (k + 1) _ _ ls ⟨by omega, hP, hD, hS, lv_sub hl [0, 1, 2, 3, 4, 5, 6, 7, 8, 9] rfl⟩ (by omega)
  refine lv_iload hx hb dX5_unseen_57 (lv_at hl 2 rfl) ?_
  refine lv_bipush (v := (nI 10)) hx hb dX5_unseen_59 (by decide) ?_
  refine rn_imul hx hb dX5_unseen_61 ?_
  refine lv_istore (lv' := [(5, .int (nI ((10 ^ k) * 10))), (7, .int (nI k)), (6, .int (nI (rgB Bw))), (4, .int (nI 0)), (0, .ref m0), (1, .int (nI r)), (2, .int (nI ch)), (3, .int (nI 0))]) hx hb dX5_unseen_62 hl (by decide) rfl (fun ls hl => ?_)
  refine lv_iinc (v := (nI (k + 1))) (lv' := [(7, .int (nI (k + 1))), (5, .int (nI ((10 ^ k) * 10))), (6, .int (nI (rgB Bw))), (4, .int (nI 0)), (0, .ref m0), (1, .int (nI r)), (2, .int (nI ch)), (3, .int (nI 0))]) hx hb dX5_unseen_64 hl (k := 1) rfl (rn_inc k 1) (by decide) rfl (fun ls hl => ?_)
  refine lv_goto (tgt := 46) hx hb dX5_unseen_67 (by decide) ?_
  exact ih46 (k + 1) _ _ ls ⟨by omega, hP, hD, hS, lv_sub hl [0, 2, 1, 3, 4, 5, 6, 7] rfl⟩ (by omega)
set_option maxHeartbeats 4000000 in
set_option maxRecDepth 100000 in
theorem c_X5_unseen_1 (l : Launch) (dC : Nat → ClassId) (dI : Nat → Nat → Nat) (cI cJ cS : ClassId) (sz : Nat) (m0 mw mt ml mz mi mr md mh : Nat) (im : Bool) (tl at0 st0 nu rm rh : Nat) (Bw Rs : Nat → Nat) (r ch : Nat) (hm : mOk Bw) (hr4 : r < 4) (hc2 : ch ≤ 10) : Met l yX5_unseen wsX5_unseen ({ frames := 2, cells := 0, slots := 0, locals := 45 }) (va_Pc [.ref m0, .int (nI r), .int (nI ch), .int (nI 1)] (rW (dC, dI) vwCl [(m0, .inr (5, [.ref mw, .int (bi im), .ref mt, .int (nI tl), .ref ml, .ref mz, .ref mi, .ref mr, .int (nI at0), .int (nI st0), .int (nI nu), .int (nI rm), .int (nI rh), .ref md, .ref mh])), (mw, .inl (cI, 480, .inl (nA Bw))), (mr, .inl (cI, 6, .inl (nA Rs)))] (tyz cI cJ cS) sz)) (qIs (nI (10 ^ Bw 0 / Nat.gcd (upN (Bw 0) (wdB Bw) (rwR Bw r) (rgB Bw) ch (2 ^ Bw 0)) (10 ^ Bw 0))) (dC, dI) vwCl (fun Rq => [(m0, .inr (5, [.ref mw, .int (bi im), .ref mt, .int (nI tl), .ref ml, .ref mz, .ref mi, .ref mr, .int (nI at0), .int (nI st0), .int (nI nu), .int (nI rm), .int (nI rh), .ref md, .ref mh])), (mw, .inl (cI, 480, .inl (nA Bw))), (mr, .inl (cI, 6, .inl (nA Rq)))]) (va_A [(m0, .inr (5, [.ref mw, .int (bi im), .ref mt, .int (nI tl), .ref ml, .ref mz, .ref mi, .ref mr, .int (nI at0), .int (nI st0), .int (nI nu), .int (nI rm), .int (nI rh), .ref md, .ref mh])), (mw, .inl (cI, 480, .inl (nA Bw))), (mr, .inl (cI, 6, .inl (nA Rs)))] sz)) 0 0 (va_A [(m0, .inr (5, [.ref mw, .int (bi im), .ref mt, .int (nI tl), .ref ml, .ref mz, .ref mi, .ref mr, .int (nI at0), .int (nI st0), .int (nI nu), .int (nI rm), .int (nI rh), .ref md, .ref mh])), (mw, .inl (cI, 480, .inl (nA Bw))), (mr, .inl (cI, 6, .inl (nA Rs)))] sz) := by
  refine Met.ofW (cc := cX5_unseen) (maxL := 10) (ret := (some .int)) (by decide) rfl ?_
  intro p e s m args below meth c s₁ B hml hv
  obtain ⟨rfl, hsz, hP, hKK, hD0⟩ := hv
  have hK := hKK.1
  have hx := B.exec
  have hb := B.bytes
  have hr := B.returns
  have hts := atoms_spec (ws := wsX5_unseen) B.pre
  have hown : s.vm.findClass RX5 = some m.cls := findClass_of_methodNamed B.named
  have hlocks := B.notSynchronized
  subst hsz
  have hD := hD0.self (sz := s.heap.size)
  generalize hAe : va_A [(m0, .inr (5, [.ref mw, .int (bi im), .ref mt, .int (nI tl), .ref ml, .ref mz, .ref mi, .ref mr, .int (nI at0), .int (nI st0), .int (nI nu), .int (nI rm), .int (nI rh), .ref md, .ref mh])), (mw, .inl (cI, 480, .inl (nA Bw))), (mr, .inl (cI, 6, .inl (nA Rs)))] s.heap.size = A at hD ⊢
  have hA : ∀ q : Nat, s.heap.size ≤ q → A q := fun q h => by rw [← hAe]; exact Or.inr h
  have hS : va_S A s.heap s.heap [] := va_S.rf
  have hP : va_P (dC, dI) vwCl [(m0, .inr (5, [.ref mw, .int (bi im), .ref mt, .int (nI tl), .ref ml, .ref mz, .ref mi, .ref mr, .int (nI at0), .int (nI st0), .int (nI nu), .int (nI rm), .int (nI rh), .ref md, .ref mh])), (mw, .inl (cI, 480, .inl (nA Bw))), (mr, .inl (cI, 6, .inl (nA Rs)))] s.heap := hP
  have hiX5 : ∀ w ∈ wsX50, w ∈ wsX5_unseen := by decide +kernel
  have hl := lv_entry ([.ref m0, .int (nI r), .int (nI ch), .int (nI 1)]) (n := 10) (Nat.le_of_ble_eq_true rfl)
  rw [lg_entry_eq]
  generalize (lg_sl ([.ref m0, .int (nI r), .int (nI ch), .int (nI 1)]) ++ List.replicate (10 - (lg_sl ([.ref m0, .int (nI r), .int (nI ch), .int (nI 1)])).length) Slot.unset).toArray = ls at hl ⊢
  have hl : lv_has ls 10 [(0, .ref m0), (1, .int (nI r)), (2, .int (nI ch)), (3, .int (nI 1))] := hl
  have hn6 := hm.n
  have hrg := rgB_b hm
  have h2n := two_b hn6
  have h10 : 10 ^ Bw 0 ≤ 1000000 := Nat.le_trans (Nat.pow_le_pow_right (by decide) hn6) (by decide)
  have h101 : 1 ≤ 10 ^ Bw 0 := Nat.pow_pos (by decide)
  refine lv_iload_n hx hb dX5_unseen_0 rfl (lv_at hl 1 rfl) ?_
  refine rr_callR (va_runS (As := [.int (nI r)]) (rest := []) ⟨hx, hb, hml, hown, hts⟩ (c_X5_isRegister l (nI r) ) (va_cwS 1 hts gX5_unseen_X5_isRegister rfl rfl rfl (by decide +kernel) ⟨Nat.le_of_ble_eq_true rfl, Nat.le_of_ble_eq_true rfl⟩) rr_preT rfl rfl hl.1 rfl (lv_room (Nat.le_of_ble_eq_true rfl)) dX5_unseen_1 ⟨Nat.zero_le _, Nat.zero_le _⟩) ?_
  refine rr_top (y := bi true) (congrArg bi (inb_lt (by omega) (by omega))) ?_
  refine rb_if_eq (tgt := 29) hx hb dX5_unseen_4 (by decide) (fun c4 => ?_) (fun c4 => ?_)
  · exact absurd c4 (by decide)
  refine lv_iload_n hx hb dX5_unseen_7 rfl (lv_at hl 2 rfl) ?_
  refine lv_i2l hx hb dX5_unseen_8 rfl ?_
  refine lv_lconst (v := 0) hx hb dX5_unseen_9 (by decide) ?_
  refine lv_ldc2 (v := 10) hx hb hown (hts (.constantLong RX5 173 (10)) (by decide +kernel)) dX5_unseen_10 ?_
  refine rr_callR (va_runS (As := [.long ((nI ch).toInt64), .long 0, .long 10]) (rest := []) ⟨hx, hb, hml, hown, hts⟩ (c_X5_in l ((nI ch).toInt64) 0 10 ) (va_cwS 3 hts gX5_unseen_X5_in rfl rfl rfl (by decide +kernel) ⟨Nat.le_of_ble_eq_true rfl, Nat.le_of_ble_eq_true rfl⟩) rr_preT rfl rfl hl.1 rfl (lv_room (Nat.le_of_ble_eq_true rfl)) dX5_unseen_13 ⟨Nat.zero_le _, Nat.zero_le _⟩) ?_
  refine rr_top (y := bi (inb (nI ch) 11)) (congrArg bi (inL_lit (by decide))) ?_
  refine rr_top (y := bi true) (congrArg bi (inb_lt (by omega) (by omega))) ?_
  refine rb_if_eq (tgt := 29) hx hb dX5_unseen_16 (by decide) (fun c16 => ?_) (fun c16 => ?_)
  · exact absurd c16 (by decide)
  refine lv_iload_n hx hb dX5_unseen_19 rfl (lv_at hl 3 rfl) ?_
  refine lv_i2l hx hb dX5_unseen_20 rfl ?_
  refine lv_lconst (v := 0) hx hb dX5_unseen_21 (by decide) ?_
  refine lv_lconst (v := 1) hx hb dX5_unseen_22 (by decide) ?_
  refine rr_callR (va_runS (As := [.long ((nI 1).toInt64), .long 0, .long 1]) (rest := []) ⟨hx, hb, hml, hown, hts⟩ (c_X5_in l ((nI 1).toInt64) 0 1 ) (va_cwS 3 hts gX5_unseen_X5_in rfl rfl rfl (by decide +kernel) ⟨Nat.le_of_ble_eq_true rfl, Nat.le_of_ble_eq_true rfl⟩) rr_preT rfl rfl hl.1 rfl (lv_room (Nat.le_of_ble_eq_true rfl)) dX5_unseen_23 ⟨Nat.zero_le _, Nat.zero_le _⟩) ?_
  refine rr_top (y := bi (inb (nI 1) 2)) (congrArg bi (inL_lit (by decide))) ?_
  refine rr_top (y := bi true) (congrArg bi (inb_lt (by omega) (by omega))) ?_
  refine rb_if_ne (tgt := 31) hx hb dX5_unseen_26 (by decide) (fun c26 => ?_) (fun c26 => ?_)
  rotate_left
  · exact absurd c26 (by decide)
  refine lv_iconst (v := (nI 0)) hx hb dX5_unseen_31 (by decide) ?_
  refine lv_istore (lv' := [(4, .int (nI 0)), (0, .ref m0), (1, .int (nI r)), (2, .int (nI ch)), (3, .int (nI 1))]) hx hb dX5_unseen_32 hl (by decide) rfl (fun ls hl => ?_)
  refine lv_iconst (v := (nI 1)) hx hb dX5_unseen_34 (by decide) ?_
  refine lv_istore (lv' := [(5, .int (nI 1)), (4, .int (nI 0)), (0, .ref m0), (1, .int (nI r)), (2, .int (nI ch)), (3, .int (nI 1))]) hx hb dX5_unseen_35 hl (by decide) rfl (fun ls hl => ?_)
  refine lv_aload_n hx hb dX5_unseen_37 rfl (lv_at hl 2 rfl) ?_
  refine rr_callR (va_runV (As := []) (rest := []) ⟨hx, hb, hml, hown, hts⟩ (c_X5_range l dC dI cI cJ cS m0 mw mt ml mz mi mr md mh im tl at0 st0 nu rm rh Bw (by first | assumption | omega)) (cwV 0 hts gX5_unseen_X5_range rfl rfl rfl (by decide +kernel) ⟨Nat.le_of_ble_eq_true rfl, Nat.le_of_ble_eq_true rfl⟩) (rr_preV hKK (hP.sub [0, 1] rfl) rfl rfl) rfl rfl hl.1 rfl (lv_room (Nat.le_of_ble_eq_true rfl)) dX5_unseen_38 ⟨Nat.zero_le _, Nat.zero_le _⟩) ?_
  refine lv_istore (lv' := [(6, .int (nI (rgB Bw))), (5, .int (nI 1)), (4, .int (nI 0)), (0, .ref m0), (1, .int (nI r)), (2, .int (nI ch)), (3, .int (nI 1))]) hx hb dX5_unseen_41 hl (by decide) rfl (fun ls hl => ?_)
  refine lv_iconst (v := (nI 0)) hx hb dX5_unseen_43 (by decide) ?_
  refine lv_istore (lv' := [(7, .int (nI 0)), (6, .int (nI (rgB Bw))), (5, .int (nI 1)), (4, .int (nI 0)), (0, .ref m0), (1, .int (nI r)), (2, .int (nI ch)), (3, .int (nI 1))]) hx hb dX5_unseen_44 hl (by decide) rfl (fun ls hl => ?_)
  refine rlW1 (A1 := Nat) (fun H locs ls => W p l e _ s m _ below meth c H locs 0 0 _ (F0 m 46 ls [])) (fun k H locs ls => k ≤ Bw 0 ∧ va_P (dC, dI) vwCl [(m0, .inr (5, [.ref mw, .int (bi im), .ref mt, .int (nI tl), .ref ml, .ref mz, .ref mi, .ref mr, .int (nI at0), .int (nI st0), .int (nI nu), .int (nI rm), .int (nI rh), .ref md, .ref mh])), (mw, .inl (cI, 480, .inl (nA Bw))), (mr, .inl (cI, 6, .inl (nA Rs)))] H ∧ va_D A [(m0, .inr (5, [.ref mw, .int (bi im), .ref mt, .int (nI tl), .ref ml, .ref mz, .ref mi, .ref mr, .int (nI at0), .int (nI st0), .int (nI nu), .int (nI rm), .int (nI rh), .ref md, .ref mh])), (mw, .inl (cI, 480, .inl (nA Bw))), (mr, .inl (cI, 6, .inl (nA Rs)))] ∧ va_S A s.heap H locs ∧ lv_has ls 10 [(7, .int (nI k)), (6, .int (nI (rgB Bw))), (5, .int (nI (10 ^ k))), (4, .int (nI 0)), (0, .ref m0), (1, .int (nI r)), (2, .int (nI ch)), (3, .int (nI 1))]) (fun k => Bw 0 - k) ?_ 0 _ _ ls ⟨by omega, hP, hD, hS, lv_sub hl [0, 1, 2, 3, 4, 5, 6, 7] rfl⟩
  rintro k H locs ls ⟨hi, hP, hD, hS, hl⟩ ih46
  refine lv_iload hx hb dX5_unseen_46 (lv_at hl 0 rfl) ?_
  refine lv_aload_n hx hb dX5_unseen_48 rfl (lv_at hl 4 rfl) ?_
  refine va_get (D := (dC, dI)) (ci := 5) (v := .ref mw) (C := RX5) (T := TX5) (N := 15) hx hb hts hiX5 hown hK hP 0 rfl rfl 0 (by decide) (hts (.fieldLink RX5 7 "RestRegistersModel" "w" "[I") (by decide +kernel)) (fun _ h9 => h9) rfl dX5_unseen_49 ?_
  refine lv_iconst (v := (nI 0)) hx hb dX5_unseen_52 (by decide) ?_
  refine rn_iald hx hb hK hP 1 0 rfl rfl (i := 0) (by omega) (by decide) (v := (nI (Bw 0))) rfl dX5_unseen_53 ?_
  refine rn_icmp_ge (tgt := 70) hx hb dX5_unseen_54 (by decide) (by omega) (by omega) (fun c54 => ?_) (fun c54 => ?_)
  · skip
    have ek : k = Bw 0 := Nat.le_antisymm hi c54
    subst ek
    refine lv_iconst (v := (nI 1)) hx hb dX5_unseen_70 (by decide) ?_
    refine lv_istore (lv' := [(7, .int (nI 1)), (6, .int (nI (rgB Bw))), (5, .int (nI (10 ^ Bw 0))), (4, .int (nI 0)), (0, .ref m0), (1, .int (nI r)), (2, .int (nI ch)), (3, .int (nI 1))]) hx hb dX5_unseen_71 hl (by decide) rfl (fun ls hl => ?_)
    refine rlW2 (A1 := Nat) (A2 := Nat → Nat) (fun H locs ls => W p l e _ s m _ below meth c H locs 0 0 _ (F0 m 73 ls [])) (fun o Ra H locs ls => o ≤ 2 ^ Bw 0 ∧ 1 ≤ o ∧ va_P (dC, dI) vwCl [(m0, .inr (5, [.ref mw, .int (bi im), .ref mt, .int (nI tl), .ref ml, .ref mz, .ref mi, .ref mr, .int (nI at0), .int (nI st0), .int (nI nu), .int (nI rm), .int (nI rh), .ref md, .ref mh])), (mw, .inl (cI, 480, .inl (nA Bw))), (mr, .inl (cI, 6, .inl (nA Ra)))] H ∧ va_D A [(m0, .inr (5, [.ref mw, .int (bi im), .ref mt, .int (nI tl), .ref ml, .ref mz, .ref mi, .ref mr, .int (nI at0), .int (nI st0), .int (nI nu), .int (nI rm), .int (nI rh), .ref md, .ref mh])), (mw, .inl (cI, 480, .inl (nA Bw))), (mr, .inl (cI, 6, .inl (nA Ra)))] ∧ va_S A s.heap H locs ∧ lv_has ls 10 [(7, .int (nI o)), (6, .int (nI (rgB Bw))), (5, .int (nI (10 ^ Bw 0))), (4, .int (nI (upN (Bw 0) (wdB Bw) (rwR Bw r) (rgB Bw) ch o))), (0, .ref m0), (1, .int (nI r)), (2, .int (nI ch)), (3, .int (nI 1))]) (fun o Ra => 2 ^ Bw 0 - o) ?_ 1 Rs H locs ls ⟨by omega, by omega, hP, hD, hS, lv_sub hl [0, 1, 2, 3, 4, 5, 6, 7] rfl⟩
    rintro o Ra H locs ls ⟨ho, h1o, hP, hD, hS, hl⟩ ih73
    refine lv_iload hx hb dX5_unseen_73 (lv_at hl 0 rfl) ?_
    refine lv_iconst (v := (nI 1)) hx hb dX5_unseen_75 (by decide) ?_
    refine lv_aload_n hx hb dX5_unseen_76 rfl (lv_at hl 4 rfl) ?_
    refine va_get (D := (dC, dI)) (ci := 5) (v := .ref mw) (C := RX5) (T := TX5) (N := 15) hx hb hts hiX5 hown hK hP 0 rfl rfl 0 (by decide) (hts (.fieldLink RX5 7 "RestRegistersModel" "w" "[I") (by decide +kernel)) (fun _ h9 => h9) rfl dX5_unseen_77 ?_
    refine lv_iconst (v := (nI 0)) hx hb dX5_unseen_80 (by decide) ?_
    refine rn_iald hx hb hK hP 1 0 rfl rfl (i := 0) (by omega) (by decide) (v := (nI (Bw 0))) rfl dX5_unseen_81 ?_
    refine lv_ishl hx hb dX5_unseen_82 ?_
    refine rr_top (y := (nI (2 ^ Bw 0))) (shl_eq (by omega)) ?_
    refine rn_icmp_ge (tgt := 210) hx hb dX5_unseen_83 (by decide) (by omega) (by omega) (fun c83 => ?_) (fun c83 => ?_)
    · skip
      have eo : o = 2 ^ Bw 0 := Nat.le_antisymm ho c83
      subst eo
      have hup := upN_le hn6 (wdB Bw) (rwR Bw r) (rgB Bw) hc2 (2 ^ Bw 0)
      have hup2 : upN (Bw 0) (wdB Bw) (rwR Bw r) (rgB Bw) ch (2 ^ Bw 0) < 2 ^ 31 := Nat.lt_of_le_of_lt hup (Nat.lt_of_le_of_lt (Nat.mul_le_mul_right 1000000 h2n.2) (by decide))
      have hg0 : 0 < Nat.gcd (upN (Bw 0) (wdB Bw) (rwR Bw r) (rgB Bw) ch (2 ^ Bw 0)) (10 ^ Bw 0) := Nat.gcd_pos_of_pos_right _ h101
      have hgl : Nat.gcd (upN (Bw 0) (wdB Bw) (rwR Bw r) (rgB Bw) ch (2 ^ Bw 0)) (10 ^ Bw 0) ≤ 10 ^ Bw 0 := Nat.gcd_le_right _ h101
      refine lv_iload hx hb dX5_unseen_210 (lv_at hl 3 rfl) ?_
      refine lv_iload hx hb dX5_unseen_212 (lv_at hl 2 rfl) ?_
      refine rr_callR (va_runS (As := [.int (nI (upN (Bw 0) (wdB Bw) (rwR Bw r) (rgB Bw) ch (2 ^ Bw 0))), .int (nI (10 ^ Bw 0))]) (rest := []) ⟨hx, hb, hml, hown, hts⟩ (c_X5_divisor l (upN (Bw 0) (wdB Bw) (rwR Bw r) (rgB Bw) ch (2 ^ Bw 0)) (10 ^ Bw 0) (hup2) (by first | assumption | omega)) (va_cwS 2 hts gX5_unseen_X5_divisor rfl rfl rfl (by decide +kernel) ⟨Nat.le_of_ble_eq_true rfl, Nat.le_of_ble_eq_true rfl⟩) rr_preT rfl rfl hl.1 rfl (lv_room (Nat.le_of_ble_eq_true rfl)) dX5_unseen_214 ⟨Nat.zero_le _, Nat.zero_le _⟩) ?_
      refine lv_istore (lv' := [(7, .int (nI (Nat.gcd (upN (Bw 0) (wdB Bw) (rwR Bw r) (rgB Bw) ch (2 ^ Bw 0)) (10 ^ Bw 0)))), (6, .int (nI (rgB Bw))), (5, .int (nI (10 ^ Bw 0))), (4, .int (nI (upN (Bw 0) (wdB Bw) (rwR Bw r) (rgB Bw) ch (2 ^ Bw 0)))), (0, .ref m0), (1, .int (nI r)), (2, .int (nI ch)), (3, .int (nI 1))]) hx hb dX5_unseen_217 hl (by decide) rfl (fun ls hl => ?_)
      refine lv_iload_n hx hb dX5_unseen_219 rfl (lv_at hl 7 rfl) ?_
      refine rn_if_ne (tgt := 231) hx hb dX5_unseen_220 (by decide) (by omega) (fun c220 => ?_) (fun c220 => ?_)
      · skip
        refine lv_iload hx hb dX5_unseen_231 (lv_at hl 2 rfl) ?_
        refine lv_iload hx hb dX5_unseen_233 (lv_at hl 0 rfl) ?_
        refine rn_idiv hx hb dX5_unseen_235 (by omega) hg0 (by omega) ?_
        exact rr_iretWs (u := Ra) hx hb hr hlocks dX5_unseen_236 hP hD hS (rfl)
      exact absurd c220 (by decide)
    refine lv_iconst (v := (nI 1)) hx hb dX5_unseen_86 (by decide) ?_
    refine lv_istore (lv' := [(8, .int (nI 1)), (7, .int (nI o)), (6, .int (nI (rgB Bw))), (5, .int (nI (10 ^ Bw 0))), (4, .int (nI (upN (Bw 0) (wdB Bw) (rwR Bw r) (rgB Bw) ch o))), (0, .ref m0), (1, .int (nI r)), (2, .int (nI ch)), (3, .int (nI 1))]) hx hb dX5_unseen_87 hl (by decide) rfl (fun ls hl => ?_)
    refine lv_aload_n hx hb dX5_unseen_89 rfl (lv_at hl 5 rfl) ?_
    refine lv_iload_n hx hb dX5_unseen_90 rfl (lv_at hl 6 rfl) ?_
    refine rw_callv (va_runV (As := [.int (nI r)]) (rest := []) ⟨hx, hb, hml, hown, hts⟩ (c_X5_looks l dC dI cI cJ cS _ m0 mw mt ml mz mi mr md mh im tl at0 st0 nu rm rh Bw Ra r (by first | assumption | omega)) (cwV 1 hts gX5_unseen_X5_looks rfl rfl rfl (by decide +kernel) ⟨Nat.le_of_ble_eq_true rfl, Nat.le_of_ble_eq_true rfl⟩) (rw_preV hKK hP hD rfl rfl) rfl rfl hl.1 rfl (lv_room (Nat.le_of_ble_eq_true rfl)) dX5_unseen_91 ⟨Nat.zero_le _, Nat.zero_le _⟩) (wr := []) hP hD hS hA [0, 1, 2] [] rfl rfl (by decide) (by decide) (fun H locs hP hD hS => ?_)
    have hP : va_P (dC, dI) vwCl [(m0, .inr (5, [.ref mw, .int (bi im), .ref mt, .int (nI tl), .ref ml, .ref mz, .ref mi, .ref mr, .int (nI at0), .int (nI st0), .int (nI nu), .int (nI rm), .int (nI rh), .ref md, .ref mh])), (mw, .inl (cI, 480, .inl (nA Bw))), (mr, .inl (cI, 6, .inl (nA (lkN Bw r 6 Ra))))] H := hP.sub [0, 1, 2] rfl
    have hD : va_D A [(m0, .inr (5, [.ref mw, .int (bi im), .ref mt, .int (nI tl), .ref ml, .ref mz, .ref mi, .ref mr, .int (nI at0), .int (nI st0), .int (nI nu), .int (nI rm), .int (nI rh), .ref md, .ref mh])), (mw, .inl (cI, 480, .inl (nA Bw))), (mr, .inl (cI, 6, .inl (nA (lkN Bw r 6 Ra))))] := hD.sub [0, 1, 2] (by decide) rfl
    refine lv_iconst (v := (nI 0)) hx hb dX5_unseen_94 (by decide) ?_
    refine lv_istore (lv' := [(9, .int (nI 0)), (8, .int (nI 1)), (7, .int (nI o)), (6, .int (nI (rgB Bw))), (5, .int (nI (10 ^ Bw 0))), (4, .int (nI (upN (Bw 0) (wdB Bw) (rwR Bw r) (rgB Bw) ch o))), (0, .ref m0), (1, .int (nI r)), (2, .int (nI ch)), (3, .int (nI 1))]) hx hb dX5_unseen_95 hl (by decide) rfl (fun ls hl => ?_)
    have ec : nA (lkN Bw r 6 Ra) = nA (tkN (wdB Bw) (rwR Bw r) o 0 (lkN Bw r 6 Ra)) := tkN_0 _ _ _ _
    rw [ec] at hP hD
    have hP : va_P (dC, dI) vwCl [(m0, .inr (5, [.ref mw, .int (bi im), .ref mt, .int (nI tl), .ref ml, .ref mz, .ref mi, .ref mr, .int (nI at0), .int (nI st0), .int (nI nu), .int (nI rm), .int (nI rh), .ref md, .ref mh])), (mw, .inl (cI, 480, .inl (nA Bw))), (mr, .inl (cI, 6, .inl (nA (tkN (wdB Bw) (rwR Bw r) o 0 (lkN Bw r 6 Ra)))))] H := hP
    have hD : va_D A [(m0, .inr (5, [.ref mw, .int (bi im), .ref mt, .int (nI tl), .ref ml, .ref mz, .ref mi, .ref mr, .int (nI at0), .int (nI st0), .int (nI nu), .int (nI rm), .int (nI rh), .ref md, .ref mh])), (mw, .inl (cI, 480, .inl (nA Bw))), (mr, .inl (cI, 6, .inl (nA (tkN (wdB Bw) (rwR Bw r) o 0 (lkN Bw r 6 Ra)))))] := hD
    refine rlW1 (A1 := Nat) (fun H locs ls => W p l e _ s m _ below meth c H locs 0 0 _ (F0 m 97 ls [])) (fun k H locs ls => k ≤ Bw 0 ∧ va_P (dC, dI) vwCl [(m0, .inr (5, [.ref mw, .int (bi im), .ref mt, .int (nI tl), .ref ml, .ref mz, .ref mi, .ref mr, .int (nI at0), .int (nI st0), .int (nI nu), .int (nI rm), .int (nI rh), .ref md, .ref mh])), (mw, .inl (cI, 480, .inl (nA Bw))), (mr, .inl (cI, 6, .inl (nA (tkN (wdB Bw) (rwR Bw r) o k (lkN Bw r 6 Ra)))))] H ∧ va_D A [(m0, .inr (5, [.ref mw, .int (bi im), .ref mt, .int (nI tl), .ref ml, .ref mz, .ref mi, .ref mr, .int (nI at0), .int (nI st0), .int (nI nu), .int (nI rm), .int (nI rh), .ref md, .ref mh])), (mw, .inl (cI, 480, .inl (nA Bw))), (mr, .inl (cI, 6, .inl (nA (tkN (wdB Bw) (rwR Bw r) o k (lkN Bw r 6 Ra)))))] ∧ va_S A s.heap H locs ∧ lv_has ls 10 [(9, .int (nI k)), (8, .int (nI (wyN ch o k))), (7, .int (nI o)), (6, .int (nI (rgB Bw))), (5, .int (nI (10 ^ Bw 0))), (4, .int (nI (upN (Bw 0) (wdB Bw) (rwR Bw r) (rgB Bw) ch o))), (0, .ref m0), (1, .int (nI r)), (2, .int (nI ch)), (3, .int (nI 1))]) (fun k => Bw 0 - k) ?_ 0 H locs ls ⟨by omega, hP, hD, hS, lv_sub hl [0, 1, 2, 3, 4, 5, 6, 7, 8, 9] rfl⟩
    rintro k H locs ls ⟨hk2, hP, hD, hS, hl⟩ ih97
    refine lv_iload hx hb dX5_unseen_97 (lv_at hl 0 rfl) ?_
    refine lv_aload_n hx hb dX5_unseen_99 rfl (lv_at hl 6 rfl) ?_
    refine va_get (D := (dC, dI)) (ci := 5) (v := .ref mw) (C := RX5) (T := TX5) (N := 15) hx hb hts hiX5 hown hK hP 0 rfl rfl 0 (by decide) (hts (.fieldLink RX5 7 "RestRegistersModel" "w" "[I") (by decide +kernel)) (fun _ h9 => h9) rfl dX5_unseen_100 ?_
    refine lv_iconst (v := (nI 0)) hx hb dX5_unseen_103 (by decide) ?_
    refine rn_iald hx hb hK hP 1 0 rfl rfl (i := 0) (by omega) (by decide) (v := (nI (Bw 0))) rfl dX5_unseen_104 ?_
    refine rn_icmp_ge (tgt := 184) hx hb dX5_unseen_105 (by decide) (by omega) (by omega) (fun c105 => ?_) (fun c105 => ?_)
    · skip
      have ek : k = Bw 0 := Nat.le_antisymm hk2 c105
      subst ek
      have hP : va_P (dC, dI) vwCl [(m0, .inr (5, [.ref mw, .int (bi im), .ref mt, .int (nI tl), .ref ml, .ref mz, .ref mi, .ref mr, .int (nI at0), .int (nI st0), .int (nI nu), .int (nI rm), .int (nI rh), .ref md, .ref mh])), (mw, .inl (cI, 480, .inl (nA Bw))), (mr, .inl (cI, 6, .inl (nA (tkN (wdB Bw) (rwR Bw r) o (Bw 0) (lkN Bw r 6 Ra)))))] H := hP
      have hD : va_D A [(m0, .inr (5, [.ref mw, .int (bi im), .ref mt, .int (nI tl), .ref ml, .ref mz, .ref mi, .ref mr, .int (nI at0), .int (nI st0), .int (nI nu), .int (nI rm), .int (nI rh), .ref md, .ref mh])), (mw, .inl (cI, 480, .inl (nA Bw))), (mr, .inl (cI, 6, .inl (nA (tkN (wdB Bw) (rwR Bw r) o (Bw 0) (lkN Bw r 6 Ra)))))] := hD
      have htr : ∀ j, j < Bw 0 → trN (wdB Bw) (rwR Bw r) o j < wdB Bw j := fun j hj => by have z1 := hm.wd j hj; have z2 : rwR Bw r j < wdB Bw j := hm.row hr4 j hj; unfold trN; split; exact Nat.mod_lt _ (by omega); exact z2
      have hvl := Val_lt hm.w htr (Nat.le_refl _)
      have hsb := spB_b hm
      have hsb2 : prW (wdB Bw) (Bw 0) = spB Bw := rfl
      refine lv_iload hx hb dX5_unseen_184 (lv_at hl 5 rfl) ?_
      refine lv_aload_n hx hb dX5_unseen_186 rfl (lv_at hl 6 rfl) ?_
      refine rr_callR (va_runV (As := []) (rest := [.int (nI (upN (Bw 0) (wdB Bw) (rwR Bw r) (rgB Bw) ch o))]) ⟨hx, hb, hml, hown, hts⟩ (c_X5_valueOf l dC dI cI cJ cS m0 mw mt ml mz mi mr md mh im tl at0 st0 nu rm rh Bw (tkN (wdB Bw) (rwR Bw r) o (Bw 0) (lkN Bw r 6 Ra)) (by first | assumption | omega) (fun j hj => by rw [show tkN (wdB Bw) (rwR Bw r) o (Bw 0) (lkN Bw r 6 Ra) j = trN (wdB Bw) (rwR Bw r) o j from if_pos hj]; exact htr j hj)) (cwV 0 hts gX5_unseen_X5_valueOf rfl rfl rfl (by decide +kernel) ⟨Nat.le_of_ble_eq_true rfl, Nat.le_of_ble_eq_true rfl⟩) (rr_preV hKK hP rfl rfl) rfl rfl hl.1 rfl (lv_room (Nat.le_of_ble_eq_true rfl)) dX5_unseen_187 ⟨Nat.zero_le _, Nat.zero_le _⟩) ?_
      refine rn_top (y := Val (Bw 0) (wdB Bw) (trN (wdB Bw) (rwR Bw r) o)) (tk_val) ?_
      refine lv_iload hx hb dX5_unseen_190 (lv_at hl 3 rfl) ?_
      refine rn_icmp_ge (tgt := 200) hx hb dX5_unseen_192 (by decide) (by omega) (by omega) (fun c192 => ?_) (fun c192 => ?_)
      · skip
        refine lv_iconst (v := (nI 0)) hx hb dX5_unseen_200 (by decide) ?_
        refine rn_iadd hx hb dX5_unseen_201 ?_
        refine rn_top (y := upN (Bw 0) (wdB Bw) (rwR Bw r) (rgB Bw) ch (o + 1)) (by rw [upN, if_neg (by omega)]; first | (rw [if_pos c192]; done) | (rw [if_neg (Nat.not_lt.mpr c192)])) ?_
        refine lv_istore (lv' := [(4, .int (nI (upN (Bw 0) (wdB Bw) (rwR Bw r) (rgB Bw) ch (o + 1)))), (9, .int (nI (Bw 0))), (8, .int (nI (wyN ch o (Bw 0)))), (7, .int (nI o)), (6, .int (nI (rgB Bw))), (5, .int (nI (10 ^ Bw 0))), (0, .ref m0), (1, .int (nI r)), (2, .int (nI ch)), (3, .int (nI 1))]) hx hb dX5_unseen_202 hl (by decide) rfl (fun ls hl => ?_)
        refine lv_iinc (v := (nI (o + 1))) (lv' := [(7, .int (nI (o + 1))), (4, .int (nI (upN (Bw 0) (wdB Bw) (rwR Bw r) (rgB Bw) ch (o + 1)))), (9, .int (nI (Bw 0))), (8, .int (nI (wyN ch o (Bw 0)))), (6, .int (nI (rgB Bw))), (5, .int (nI (10 ^ Bw 0))), (0, .ref m0), (1, .int (nI r)), (2, .int (nI ch)), (3, .int (nI 1))]) hx hb dX5_unseen_204 hl (k := 3) rfl (rn_inc o 1) (by decide) rfl (fun ls hl => ?_)
        refine lv_goto (tgt := 73) hx hb dX5_unseen_207 (by decide) ?_
        exact ih73 (o + 1) (tkN (wdB Bw) (rwR Bw r) o (Bw 0) (lkN Bw r 6 Ra)) _ _ ls ⟨by omega, by omega, hP, hD, hS, lv_sub hl [0, 4, 5, 1, 6, 7, 8, 9] rfl⟩ (by omega)
      refine lv_iload hx hb dX5_unseen_195 (lv_at hl 1 rfl) ?_
      refine lv_goto (tgt := 201) hx hb dX5_unseen_197 (by decide) ?_
      refine rn_iadd hx hb dX5_unseen_201 ?_
      refine rn_top (y := upN (Bw 0) (wdB Bw) (rwR Bw r) (rgB Bw) ch (o + 1)) (by rw [upN, if_neg (by omega)]; first | (rw [if_pos c192]; done) | (rw [if_neg (Nat.not_lt.mpr c192)])) ?_
      refine lv_istore (lv' := [(4, .int (nI (upN (Bw 0) (wdB Bw) (rwR Bw r) (rgB Bw) ch (o + 1)))), (9, .int (nI (Bw 0))), (8, .int (nI (wyN ch o (Bw 0)))), (7, .int (nI o)), (6, .int (nI (rgB Bw))), (5, .int (nI (10 ^ Bw 0))), (0, .ref m0), (1, .int (nI r)), (2, .int (nI ch)), (3, .int (nI 1))]) hx hb dX5_unseen_202 hl (by decide) rfl (fun ls hl => ?_)
      refine lv_iinc (v := (nI (o + 1))) (lv' := [(7, .int (nI (o + 1))), (4, .int (nI (upN (Bw 0) (wdB Bw) (rwR Bw r) (rgB Bw) ch (o + 1)))), (9, .int (nI (Bw 0))), (8, .int (nI (wyN ch o (Bw 0)))), (6, .int (nI (rgB Bw))), (5, .int (nI (10 ^ Bw 0))), (0, .ref m0), (1, .int (nI r)), (2, .int (nI ch)), (3, .int (nI 1))]) hx hb dX5_unseen_204 hl (k := 3) rfl (rn_inc o 1) (by decide) rfl (fun ls hl => ?_)
      refine lv_goto (tgt := 73) hx hb dX5_unseen_207 (by decide) ?_
      exact ih73 (o + 1) (tkN (wdB Bw) (rwR Bw r) o (Bw 0) (lkN Bw r 6 Ra)) _ _ ls ⟨by omega, by omega, hP, hD, hS, lv_sub hl [0, 4, 5, 1, 6, 7, 8, 9] rfl⟩ (by omega)
    refine lv_iload hx hb dX5_unseen_108 (lv_at hl 1 rfl) ?_
    refine lv_iload hx hb dX5_unseen_110 (lv_at hl 2 rfl) ?_
    refine lv_iload hx hb dX5_unseen_112 (lv_at hl 0 rfl) ?_
    refine rr_callR (va_runS (As := [.int (nI o), .int (nI k)]) (rest := [.int (nI (wyN ch o k))]) ⟨hx, hb, hml, hown, hts⟩ (c_X5_has l o k (by first | assumption | omega) (by first | assumption | omega)) (va_cwS 2 hts gX5_unseen_X5_has rfl rfl rfl (by decide +kernel) ⟨Nat.le_of_ble_eq_true rfl, Nat.le_of_ble_eq_true rfl⟩) rr_preT rfl rfl hl.1 rfl (lv_room (Nat.le_of_ble_eq_true rfl)) dX5_unseen_114 ⟨Nat.zero_le _, Nat.zero_le _⟩) ?_
    refine rb_if_eq (tgt := 124) hx hb dX5_unseen_117 (by decide) (fun c117 => ?_) (fun c117 => ?_)
    · skip
      refine lv_bipush (v := (nI 10)) hx hb dX5_unseen_124 (by decide) ?_
      refine lv_iload_n hx hb dX5_unseen_126 rfl (lv_at hl 8 rfl) ?_
      refine rn_isub hx hb dX5_unseen_127 (by omega) ?_
      refine rn_imul hx hb dX5_unseen_128 ?_
      refine rn_top (y := wyN ch o (k + 1)) (by rw [wyN, c117]; rfl) ?_
      refine lv_istore (lv' := [(8, .int (nI (wyN ch o (k + 1)))), (9, .int (nI k)), (7, .int (nI o)), (6, .int (nI (rgB Bw))), (5, .int (nI (10 ^ Bw 0))), (4, .int (nI (upN (Bw 0) (wdB Bw) (rwR Bw r) (rgB Bw) ch o))), (0, .ref m0), (1, .int (nI r)), (2, .int (nI ch)), (3, .int (nI 1))]) hx hb dX5_unseen_129 hl (by decide) rfl (fun ls hl => ?_)
      refine lv_aload_n hx hb dX5_unseen_131 rfl (lv_at hl 6 rfl) ?_
      refine va_get (D := (dC, dI)) (ci := 5) (v := .ref mr) (C := RX5) (T := TX5) (N := 15) hx hb hts hiX5 hown hK hP 0 rfl rfl 7 (by decide) (hts (.fieldLink RX5 26 "RestRegistersModel" "rests" "[I") (by decide +kernel)) (fun _ h9 => h9) rfl dX5_unseen_132 ?_
      refine lv_iload hx hb dX5_unseen_135 (lv_at hl 1 rfl) ?_
      refine lv_iload hx hb dX5_unseen_137 (lv_at hl 2 rfl) ?_
      refine lv_iload hx hb dX5_unseen_139 (lv_at hl 1 rfl) ?_
      refine rr_callR (va_runS (As := [.int (nI o), .int (nI k)]) (rest := [.int (nI k), .ref mr]) ⟨hx, hb, hml, hown, hts⟩ (c_X5_has l o k (by first | assumption | omega) (by first | assumption | omega)) (va_cwS 2 hts gX5_unseen_X5_has rfl rfl rfl (by decide +kernel) ⟨Nat.le_of_ble_eq_true rfl, Nat.le_of_ble_eq_true rfl⟩) rr_preT rfl rfl hl.1 rfl (lv_room (Nat.le_of_ble_eq_true rfl)) dX5_unseen_141 ⟨Nat.zero_le _, Nat.zero_le _⟩) ?_
      refine rb_if_eq (tgt := 170) hx hb dX5_unseen_144 (by decide) (fun c144 => ?_) (fun c144 => ?_)
      · skip
        refine lv_aload_n hx hb dX5_unseen_170 rfl (lv_at hl 6 rfl) ?_
        refine va_get (D := (dC, dI)) (ci := 5) (v := .ref mr) (C := RX5) (T := TX5) (N := 15) hx hb hts hiX5 hown hK hP 0 rfl rfl 7 (by decide) (hts (.fieldLink RX5 26 "RestRegistersModel" "rests" "[I") (by decide +kernel)) (fun _ h9 => h9) rfl dX5_unseen_171 ?_
        refine lv_iload hx hb dX5_unseen_174 (lv_at hl 1 rfl) ?_
        refine rn_iald hx hb hK hP 2 0 rfl rfl (i := k) (by omega) (by decide) (v := (nI ((tkN (wdB Bw) (rwR Bw r) o k (lkN Bw r 6 Ra)) k))) rfl dX5_unseen_176 ?_
        refine rn_top (y := trN (wdB Bw) (rwR Bw r) o k) (by unfold trN; rw [if_neg (by rw [c144]; decide)]; exact tkN_at.trans (lk_at (by omega))) ?_
        refine rn_iast hx hb hK hP hD hS 2 0 rfl rfl (i := k) (by omega) (by decide) (g := nA (uN (tkN (wdB Bw) (rwR Bw r) o k (lkN Bw r 6 Ra)) k (trN (wdB Bw) (rwR Bw r) o k))) (nA_upd _ _ _) dX5_unseen_177 (fun H locs hP hD hS => ?_)
        have hP : va_P (dC, dI) vwCl [(m0, .inr (5, [.ref mw, .int (bi im), .ref mt, .int (nI tl), .ref ml, .ref mz, .ref mi, .ref mr, .int (nI at0), .int (nI st0), .int (nI nu), .int (nI rm), .int (nI rh), .ref md, .ref mh])), (mw, .inl (cI, 480, .inl (nA Bw))), (mr, .inl (cI, 6, .inl (nA (uN (tkN (wdB Bw) (rwR Bw r) o k (lkN Bw r 6 Ra)) k (trN (wdB Bw) (rwR Bw r) o k)))))] H := hP
        have hD : va_D A [(m0, .inr (5, [.ref mw, .int (bi im), .ref mt, .int (nI tl), .ref ml, .ref mz, .ref mi, .ref mr, .int (nI at0), .int (nI st0), .int (nI nu), .int (nI rm), .int (nI rh), .ref md, .ref mh])), (mw, .inl (cI, 480, .inl (nA Bw))), (mr, .inl (cI, 6, .inl (nA (uN (tkN (wdB Bw) (rwR Bw r) o k (lkN Bw r 6 Ra)) k (trN (wdB Bw) (rwR Bw r) o k)))))] := hD
        have ec : nA (uN (tkN (wdB Bw) (rwR Bw r) o k (lkN Bw r 6 Ra)) k (trN (wdB Bw) (rwR Bw r) o k)) = nA (tkN (wdB Bw) (rwR Bw r) o (k + 1) (lkN Bw r 6 Ra)) := tkN_s rfl
        rw [ec] at hP hD
        have hP : va_P (dC, dI) vwCl [(m0, .inr (5, [.ref mw, .int (bi im), .ref mt, .int (nI tl), .ref ml, .ref mz, .ref mi, .ref mr, .int (nI at0), .int (nI st0), .int (nI nu), .int (nI rm), .int (nI rh), .ref md, .ref mh])), (mw, .inl (cI, 480, .inl (nA Bw))), (mr, .inl (cI, 6, .inl (nA (tkN (wdB Bw) (rwR Bw r) o (k + 1) (lkN Bw r 6 Ra)))))] H := hP
        have hD : va_D A [(m0, .inr (5, [.ref mw, .int (bi im), .ref mt, .int (nI tl), .ref ml, .ref mz, .ref mi, .ref mr, .int (nI at0), .int (nI st0), .int (nI nu), .int (nI rm), .int (nI rh), .ref md, .ref mh])), (mw, .inl (cI, 480, .inl (nA Bw))), (mr, .inl (cI, 6, .inl (nA (tkN (wdB Bw) (rwR Bw r) o (k + 1) (lkN Bw r 6 Ra)))))] := hD
        refine lv_iinc (v := (nI (k + 1))) (lv' := [(9, .int (nI (k + 1))), (8, .int (nI (wyN ch o (k + 1)))), (7, .int (nI o)), (6, .int (nI (rgB Bw))), (5, .int (nI (10 ^ Bw 0))), (4, .int (nI (upN (Bw 0) (wdB Bw) (rwR Bw r) (rgB Bw) ch o))), (0, .ref m0), (1, .int (nI r)), (2, .int (nI ch)), (3, .int (nI 1))]) hx hb dX5_unseen_178 hl (k := 1) rfl (rn_inc k 1) (by decide) rfl (fun ls hl => ?_)
        refine lv_goto (tgt := 97) hx hb dX5_unseen_181 (by decide) ?_
        exact ih97 (k + 1) _ _ ls ⟨by omega, hP, hD, hS, lv_sub hl [0, 1, 2, 3, 4, 5, 6, 7, 8, 9] rfl⟩ (by omega)
      exact absurd (c117.symm.trans c144) (by decide)
    refine lv_iload_n hx hb dX5_unseen_120 rfl (lv_at hl 8 rfl) ?_
    refine lv_goto (tgt := 128) hx hb dX5_unseen_121 (by decide) ?_
    refine rn_imul hx hb dX5_unseen_128 ?_
    refine rn_top (y := wyN ch o (k + 1)) (by rw [wyN, c117]; rfl) ?_
    refine lv_istore (lv' := [(8, .int (nI (wyN ch o (k + 1)))), (9, .int (nI k)), (7, .int (nI o)), (6, .int (nI (rgB Bw))), (5, .int (nI (10 ^ Bw 0))), (4, .int (nI (upN (Bw 0) (wdB Bw) (rwR Bw r) (rgB Bw) ch o))), (0, .ref m0), (1, .int (nI r)), (2, .int (nI ch)), (3, .int (nI 1))]) hx hb dX5_unseen_129 hl (by decide) rfl (fun ls hl => ?_)
    refine lv_aload_n hx hb dX5_unseen_131 rfl (lv_at hl 6 rfl) ?_
    refine va_get (D := (dC, dI)) (ci := 5) (v := .ref mr) (C := RX5) (T := TX5) (N := 15) hx hb hts hiX5 hown hK hP 0 rfl rfl 7 (by decide) (hts (.fieldLink RX5 26 "RestRegistersModel" "rests" "[I") (by decide +kernel)) (fun _ h9 => h9) rfl dX5_unseen_132 ?_
    refine lv_iload hx hb dX5_unseen_135 (lv_at hl 1 rfl) ?_
    refine lv_iload hx hb dX5_unseen_137 (lv_at hl 2 rfl) ?_
    refine lv_iload hx hb dX5_unseen_139 (lv_at hl 1 rfl) ?_
    refine rr_callR (va_runS (As := [.int (nI o), .int (nI k)]) (rest := [.int (nI k), .ref mr]) ⟨hx, hb, hml, hown, hts⟩ (c_X5_has l o k (by first | assumption | omega) (by first | assumption | omega)) (va_cwS 2 hts gX5_unseen_X5_has rfl rfl rfl (by decide +kernel) ⟨Nat.le_of_ble_eq_true rfl, Nat.le_of_ble_eq_true rfl⟩) rr_preT rfl rfl hl.1 rfl (lv_room (Nat.le_of_ble_eq_true rfl)) dX5_unseen_141 ⟨Nat.zero_le _, Nat.zero_le _⟩) ?_
    refine rb_if_eq (tgt := 170) hx hb dX5_unseen_144 (by decide) (fun c144 => ?_) (fun c144 => ?_)
    · skip
      exact absurd (c117.symm.trans c144) (by decide)
    refine lv_aload_n hx hb dX5_unseen_147 rfl (lv_at hl 6 rfl) ?_
    refine va_get (D := (dC, dI)) (ci := 5) (v := .ref mr) (C := RX5) (T := TX5) (N := 15) hx hb hts hiX5 hown hK hP 0 rfl rfl 7 (by decide) (hts (.fieldLink RX5 26 "RestRegistersModel" "rests" "[I") (by decide +kernel)) (fun _ h9 => h9) rfl dX5_unseen_148 ?_
    refine lv_iload hx hb dX5_unseen_151 (lv_at hl 1 rfl) ?_
    refine rn_iald hx hb hK hP 2 0 rfl rfl (i := k) (by omega) (by decide) (v := (nI ((tkN (wdB Bw) (rwR Bw r) o k (lkN Bw r 6 Ra)) k))) rfl dX5_unseen_153 ?_
    refine rn_top (y := rwR Bw r k) (tkN_at.trans (lk_at (by omega))) ?_
    have hrw : rwR Bw r k < wdB Bw k := hm.row hr4 k (by omega)
    refine lv_iconst (v := (nI 1)) hx hb dX5_unseen_154 (by decide) ?_
    refine rn_iadd hx hb dX5_unseen_155 ?_
    refine lv_aload_n hx hb dX5_unseen_156 rfl (lv_at hl 6 rfl) ?_
    refine va_get (D := (dC, dI)) (ci := 5) (v := .ref mw) (C := RX5) (T := TX5) (N := 15) hx hb hts hiX5 hown hK hP 0 rfl rfl 0 (by decide) (hts (.fieldLink RX5 7 "RestRegistersModel" "w" "[I") (by decide +kernel)) (fun _ h9 => h9) rfl dX5_unseen_157 ?_
    refine lv_bipush (v := (nI 8)) hx hb dX5_unseen_160 (by decide) ?_
    refine lv_iload hx hb dX5_unseen_162 (lv_at hl 1 rfl) ?_
    refine rn_iadd hx hb dX5_unseen_164 ?_
    refine rn_iald hx hb hK hP 1 0 rfl rfl (i := 8 + k) (by omega) (by decide) (v := (nI (wdB Bw k))) rfl dX5_unseen_165 ?_
    have hv165 := hm.wd k (by omega)
    refine rn_irem hx hb dX5_unseen_166 (by omega) (by omega) (by omega) ?_
    refine lv_goto (tgt := 177) hx hb dX5_unseen_167 (by decide) ?_
    refine rn_top (y := trN (wdB Bw) (rwR Bw r) o k) (by unfold trN; rw [if_pos c144]) ?_
    refine rn_iast hx hb hK hP hD hS 2 0 rfl rfl (i := k) (by omega) (by decide) (g := nA (uN (tkN (wdB Bw) (rwR Bw r) o k (lkN Bw r 6 Ra)) k (trN (wdB Bw) (rwR Bw r) o k))) (nA_upd _ _ _) dX5_unseen_177 (fun H locs hP hD hS => ?_)
    have hP : va_P (dC, dI) vwCl [(m0, .inr (5, [.ref mw, .int (bi im), .ref mt, .int (nI tl), .ref ml, .ref mz, .ref mi, .ref mr, .int (nI at0), .int (nI st0), .int (nI nu), .int (nI rm), .int (nI rh), .ref md, .ref mh])), (mw, .inl (cI, 480, .inl (nA Bw))), (mr, .inl (cI, 6, .inl (nA (uN (tkN (wdB Bw) (rwR Bw r) o k (lkN Bw r 6 Ra)) k (trN (wdB Bw) (rwR Bw r) o k)))))] H := hP
    have hD : va_D A [(m0, .inr (5, [.ref mw, .int (bi im), .ref mt, .int (nI tl), .ref ml, .ref mz, .ref mi, .ref mr, .int (nI at0), .int (nI st0), .int (nI nu), .int (nI rm), .int (nI rh), .ref md, .ref mh])), (mw, .inl (cI, 480, .inl (nA Bw))), (mr, .inl (cI, 6, .inl (nA (uN (tkN (wdB Bw) (rwR Bw r) o k (lkN Bw r 6 Ra)) k (trN (wdB Bw) (rwR Bw r) o k)))))] := hD
    have ec : nA (uN (tkN (wdB Bw) (rwR Bw r) o k (lkN Bw r 6 Ra)) k (trN (wdB Bw) (rwR Bw r) o k)) = nA (tkN (wdB Bw) (rwR Bw r) o (k + 1) (lkN Bw r 6 Ra)) := tkN_s rfl
    rw [ec] at hP hD
    have hP : va_P (dC, dI) vwCl [(m0, .inr (5, [.ref mw, .int (bi im), .ref mt, .int (nI tl), .ref ml, .ref mz, .ref mi, .ref mr, .int (nI at0), .int (nI st0), .int (nI nu), .int (nI rm), .int (nI rh), .ref md, .ref mh])), (mw, .inl (cI, 480, .inl (nA Bw))), (mr, .inl (cI, 6, .inl (nA (tkN (wdB Bw) (rwR Bw r) o (k + 1) (lkN Bw r 6 Ra)))))] H := hP
    have hD : va_D A [(m0, .inr (5, [.ref mw, .int (bi im), .ref mt, .int (nI tl), .ref ml, .ref mz, .ref mi, .ref mr, .int (nI at0), .int (nI st0), .int (nI nu), .int (nI rm), .int (nI rh), .ref md, .ref mh])), (mw, .inl (cI, 480, .inl (nA Bw))), (mr, .inl (cI, 6, .inl (nA (tkN (wdB Bw) (rwR Bw r) o (k + 1) (lkN Bw r 6 Ra)))))] := hD
    refine lv_iinc (v := (nI (k + 1))) (lv' := [(9, .int (nI (k + 1))), (8, .int (nI (wyN ch o (k + 1)))), (7, .int (nI o)), (6, .int (nI (rgB Bw))), (5, .int (nI (10 ^ Bw 0))), (4, .int (nI (upN (Bw 0) (wdB Bw) (rwR Bw r) (rgB Bw) ch o))), (0, .ref m0), (1, .int (nI r)), (2, .int (nI ch)), (3, .int (nI 1))]) hx hb dX5_unseen_178 hl (k := 1) rfl (rn_inc k 1) (by decide) rfl (fun ls hl => ?_)
    refine lv_goto (tgt := 97) hx hb dX5_unseen_181 (by decide) ?_
    exact ih97 (k + 1) _ _ ls ⟨by omega, hP, hD, hS, lv_sub hl [0, 1, 2, 3, 4, 5, 6, 7, 8, 9] rfl⟩ (by omega)
  refine lv_iload hx hb dX5_unseen_57 (lv_at hl 2 rfl) ?_
  refine lv_bipush (v := (nI 10)) hx hb dX5_unseen_59 (by decide) ?_
  refine rn_imul hx hb dX5_unseen_61 ?_
  refine lv_istore (lv' := [(5, .int (nI ((10 ^ k) * 10))), (7, .int (nI k)), (6, .int (nI (rgB Bw))), (4, .int (nI 0)), (0, .ref m0), (1, .int (nI r)), (2, .int (nI ch)), (3, .int (nI 1))]) hx hb dX5_unseen_62 hl (by decide) rfl (fun ls hl => ?_)
  refine lv_iinc (v := (nI (k + 1))) (lv' := [(7, .int (nI (k + 1))), (5, .int (nI ((10 ^ k) * 10))), (6, .int (nI (rgB Bw))), (4, .int (nI 0)), (0, .ref m0), (1, .int (nI r)), (2, .int (nI ch)), (3, .int (nI 1))]) hx hb dX5_unseen_64 hl (k := 1) rfl (rn_inc k 1) (by decide) rfl (fun ls hl => ?_)
  refine lv_goto (tgt := 46) hx hb dX5_unseen_67 (by decide) ?_
  exact ih46 (k + 1) _ _ ls ⟨by omega, hP, hD, hS, lv_sub hl [0, 2, 1, 3, 4, 5, 6, 7] rfl⟩ (by omega)
set_option maxHeartbeats 4000000 in
set_option maxRecDepth 100000 in
theorem c_X5_unseen_b (l : Launch) (dC : Nat → ClassId) (dI : Nat → Nat → Nat) (cI cJ cS : ClassId) (m0 mw mt ml mz mi mr md mh : Nat) (im : Bool) (tl at0 st0 nu rm rh : Nat) (Bw : Nat → Nat) (x y z : Int32) (hm : mOk Bw) (hbad : (inb x 4 && inb y 11 && inb z 2) = false) : Met l yX5_unseen wsX5_unseen ({ frames := 2, cells := 0, slots := 0, locals := 45 }) (va_Pc [.ref m0, .int x, .int y, .int z] (rB (dC, dI) vwCl [(m0, .inr (5, [.ref mw, .int (bi im), .ref mt, .int (nI tl), .ref ml, .ref mz, .ref mi, .ref mr, .int (nI at0), .int (nI st0), .int (nI nu), .int (nI rm), .int (nI rh), .ref md, .ref mh])), (mw, .inl (cI, 480, .inl (nA Bw)))] (tyz cI cJ cS))) (QcRead (-1)) 0 0 (fun _ => False) := by
  refine Met.ofW (cc := cX5_unseen) (maxL := 10) (ret := (some .int)) (by decide) rfl ?_
  intro p e s m args below meth c s₁ B hml hv
  obtain ⟨rfl, hP, hKK⟩ := hv
  have hK := hKK.1
  have hx := B.exec
  have hb := B.bytes
  have hr := B.returns
  have hts := atoms_spec (ws := wsX5_unseen) B.pre
  have hown : s.vm.findClass RX5 = some m.cls := findClass_of_methodNamed B.named
  have hlocks := B.notSynchronized
  have hiX5 : ∀ w ∈ wsX50, w ∈ wsX5_unseen := by decide +kernel
  have hl := lv_entry ([.ref m0, .int x, .int y, .int z]) (n := 10) (Nat.le_of_ble_eq_true rfl)
  rw [lg_entry_eq]
  generalize (lg_sl ([.ref m0, .int x, .int y, .int z]) ++ List.replicate (10 - (lg_sl ([.ref m0, .int x, .int y, .int z])).length) Slot.unset).toArray = ls at hl ⊢
  have hl : lv_has ls 10 [(0, .ref m0), (1, .int x), (2, .int y), (3, .int z)] := hl
  have hn6 := hm.n
  refine lv_iload_n hx hb dX5_unseen_0 rfl (lv_at hl 1 rfl) ?_
  refine rr_callR (va_runS (As := [.int x]) (rest := []) ⟨hx, hb, hml, hown, hts⟩ (c_X5_isRegister l x ) (va_cwS 1 hts gX5_unseen_X5_isRegister rfl rfl rfl (by decide +kernel) ⟨Nat.le_of_ble_eq_true rfl, Nat.le_of_ble_eq_true rfl⟩) rr_preT rfl rfl hl.1 rfl (lv_room (Nat.le_of_ble_eq_true rfl)) dX5_unseen_1 ⟨Nat.zero_le _, Nat.zero_le _⟩) ?_
  refine rb_if_eq (tgt := 29) hx hb dX5_unseen_4 (by decide) (fun c4 => ?_) (fun c4 => ?_)
  · skip
    refine lv_iconst (v := (-1)) hx hb dX5_unseen_29 (by decide) ?_
    exact rr_iret hx hb hr hlocks dX5_unseen_30 (rfl)
  refine lv_iload_n hx hb dX5_unseen_7 rfl (lv_at hl 2 rfl) ?_
  refine lv_i2l hx hb dX5_unseen_8 rfl ?_
  refine lv_lconst (v := 0) hx hb dX5_unseen_9 (by decide) ?_
  refine lv_ldc2 (v := 10) hx hb hown (hts (.constantLong RX5 173 (10)) (by decide +kernel)) dX5_unseen_10 ?_
  refine rr_callR (va_runS (As := [.long y.toInt64, .long 0, .long 10]) (rest := []) ⟨hx, hb, hml, hown, hts⟩ (c_X5_in l y.toInt64 0 10 ) (va_cwS 3 hts gX5_unseen_X5_in rfl rfl rfl (by decide +kernel) ⟨Nat.le_of_ble_eq_true rfl, Nat.le_of_ble_eq_true rfl⟩) rr_preT rfl rfl hl.1 rfl (lv_room (Nat.le_of_ble_eq_true rfl)) dX5_unseen_13 ⟨Nat.zero_le _, Nat.zero_le _⟩) ?_
  refine rr_top (y := bi (inb y 11)) (congrArg bi (inL_lit (by decide))) ?_
  refine rb_if_eq (tgt := 29) hx hb dX5_unseen_16 (by decide) (fun c16 => ?_) (fun c16 => ?_)
  · skip
    refine lv_iconst (v := (-1)) hx hb dX5_unseen_29 (by decide) ?_
    exact rr_iret hx hb hr hlocks dX5_unseen_30 (rfl)
  refine lv_iload_n hx hb dX5_unseen_19 rfl (lv_at hl 3 rfl) ?_
  refine lv_i2l hx hb dX5_unseen_20 rfl ?_
  refine lv_lconst (v := 0) hx hb dX5_unseen_21 (by decide) ?_
  refine lv_lconst (v := 1) hx hb dX5_unseen_22 (by decide) ?_
  refine rr_callR (va_runS (As := [.long z.toInt64, .long 0, .long 1]) (rest := []) ⟨hx, hb, hml, hown, hts⟩ (c_X5_in l z.toInt64 0 1 ) (va_cwS 3 hts gX5_unseen_X5_in rfl rfl rfl (by decide +kernel) ⟨Nat.le_of_ble_eq_true rfl, Nat.le_of_ble_eq_true rfl⟩) rr_preT rfl rfl hl.1 rfl (lv_room (Nat.le_of_ble_eq_true rfl)) dX5_unseen_23 ⟨Nat.zero_le _, Nat.zero_le _⟩) ?_
  refine rr_top (y := bi (inb z 2)) (congrArg bi (inL_lit (by decide))) ?_
  refine rb_if_ne (tgt := 31) hx hb dX5_unseen_26 (by decide) (fun c26 => ?_) (fun c26 => ?_)
  · skip
    exact absurd hbad (by rw [c4, c16, c26]; decide)
  refine lv_iconst (v := (-1)) hx hb dX5_unseen_29 (by decide) ?_
  exact rr_iret hx hb hr hlocks dX5_unseen_30 (rfl)
set_option maxHeartbeats 4000000 in
set_option maxRecDepth 100000 in
theorem c_X5_image_g (l : Launch) (dC : Nat → ClassId) (dI : Nat → Nat → Nat) (cI cJ cS : ClassId) (sz : Nat) (m0 mw mt ml mz mi mr md mh : Nat) (im : Bool) (tl at0 st0 nu rm rh : Nat) (Bw : Nat → Nat) : Met l yX5_image wsX5_image ({ frames := 0, cells := 0, slots := 0, locals := 0 }) (va_Pc [.ref m0] (rW (dC, dI) vwCl [(m0, .inr (5, [.ref mw, .int (bi im), .ref mt, .int (nI tl), .ref ml, .ref mz, .ref mi, .ref mr, .int (nI at0), .int (nI st0), .int (nI nu), .int (nI rm), .int (nI rh), .ref md, .ref mh])), (mw, .inl (cI, 480, .inl (nA Bw)))] (tyz cI cJ cS) sz)) (qI (nI 1) (dC, dI) vwCl [(m0, .inr (5, [.ref mw, .int (bi true), .ref mt, .int (nI tl), .ref ml, .ref mz, .ref mi, .ref mr, .int (nI at0), .int (nI st0), .int (nI nu), .int (nI rm), .int (nI rh), .ref md, .ref mh])), (mw, .inl (cI, 480, .inl (nA (cpN Bw Bw 0 240 240))))] (va_A [(m0, .inr (5, [.ref mw, .int (bi im), .ref mt, .int (nI tl), .ref ml, .ref mz, .ref mi, .ref mr, .int (nI at0), .int (nI st0), .int (nI nu), .int (nI rm), .int (nI rh), .ref md, .ref mh])), (mw, .inl (cI, 480, .inl (nA Bw)))] sz)) 0 0 (va_A [(m0, .inr (5, [.ref mw, .int (bi im), .ref mt, .int (nI tl), .ref ml, .ref mz, .ref mi, .ref mr, .int (nI at0), .int (nI st0), .int (nI nu), .int (nI rm), .int (nI rh), .ref md, .ref mh])), (mw, .inl (cI, 480, .inl (nA Bw)))] sz) := by
  refine Met.ofW (cc := cX5_image) (maxL := 2) (ret := (some .int)) (by decide) rfl ?_
  intro p e s m args below meth c s₁ B hml hv
  obtain ⟨rfl, hsz, hP, hKK, hD0⟩ := hv
  have hK := hKK.1
  have hx := B.exec
  have hb := B.bytes
  have hr := B.returns
  have hts := atoms_spec (ws := wsX5_image) B.pre
  have hown : s.vm.findClass RX5 = some m.cls := findClass_of_methodNamed B.named
  have hlocks := B.notSynchronized
  subst hsz
  have hD := hD0.self (sz := s.heap.size)
  generalize hAe : va_A [(m0, .inr (5, [.ref mw, .int (bi im), .ref mt, .int (nI tl), .ref ml, .ref mz, .ref mi, .ref mr, .int (nI at0), .int (nI st0), .int (nI nu), .int (nI rm), .int (nI rh), .ref md, .ref mh])), (mw, .inl (cI, 480, .inl (nA Bw)))] s.heap.size = A at hD ⊢
  have hA : ∀ q : Nat, s.heap.size ≤ q → A q := fun q h => by rw [← hAe]; exact Or.inr h
  have hS : va_S A s.heap s.heap [] := va_S.rf
  have hP : va_P (dC, dI) vwCl [(m0, .inr (5, [.ref mw, .int (bi im), .ref mt, .int (nI tl), .ref ml, .ref mz, .ref mi, .ref mr, .int (nI at0), .int (nI st0), .int (nI nu), .int (nI rm), .int (nI rh), .ref md, .ref mh])), (mw, .inl (cI, 480, .inl (nA Bw)))] s.heap := hP
  have hiX5 : ∀ w ∈ wsX50, w ∈ wsX5_image := by decide +kernel
  have hl := lv_entry ([.ref m0]) (n := 2) (Nat.le_of_ble_eq_true rfl)
  rw [lg_entry_eq]
  generalize (lg_sl ([.ref m0]) ++ List.replicate (2 - (lg_sl ([.ref m0])).length) Slot.unset).toArray = ls at hl ⊢
  have hl : lv_has ls 2 [(0, .ref m0)] := hl
  refine lv_iconst (v := (nI 0)) hx hb dX5_image_0 (by decide) ?_
  refine lv_istore_n (lv' := [(1, .int (nI 0)), (0, .ref m0)]) hx hb dX5_image_1 rfl hl (by decide) rfl (fun ls hl => ?_)
  have ec : nA Bw = nA (cpN Bw Bw 0 240 0) := cpN_0 _ _ _ _
  rw [ec] at hP hD
  have hP : va_P (dC, dI) vwCl [(m0, .inr (5, [.ref mw, .int (bi im), .ref mt, .int (nI tl), .ref ml, .ref mz, .ref mi, .ref mr, .int (nI at0), .int (nI st0), .int (nI nu), .int (nI rm), .int (nI rh), .ref md, .ref mh])), (mw, .inl (cI, 480, .inl (nA (cpN Bw Bw 0 240 0))))] s.heap := hP
  have hD : va_D A [(m0, .inr (5, [.ref mw, .int (bi im), .ref mt, .int (nI tl), .ref ml, .ref mz, .ref mi, .ref mr, .int (nI at0), .int (nI st0), .int (nI nu), .int (nI rm), .int (nI rh), .ref md, .ref mh])), (mw, .inl (cI, 480, .inl (nA (cpN Bw Bw 0 240 0))))] := hD
  refine rlW1 (A1 := Nat) (fun H locs ls => W p l e _ s m _ below meth c H locs 0 0 _ (F0 m 2 ls [])) (fun k H locs ls => k ≤ 240 ∧ va_P (dC, dI) vwCl [(m0, .inr (5, [.ref mw, .int (bi im), .ref mt, .int (nI tl), .ref ml, .ref mz, .ref mi, .ref mr, .int (nI at0), .int (nI st0), .int (nI nu), .int (nI rm), .int (nI rh), .ref md, .ref mh])), (mw, .inl (cI, 480, .inl (nA (cpN Bw Bw 0 240 k))))] H ∧ va_D A [(m0, .inr (5, [.ref mw, .int (bi im), .ref mt, .int (nI tl), .ref ml, .ref mz, .ref mi, .ref mr, .int (nI at0), .int (nI st0), .int (nI nu), .int (nI rm), .int (nI rh), .ref md, .ref mh])), (mw, .inl (cI, 480, .inl (nA (cpN Bw Bw 0 240 k))))] ∧ va_S A s.heap H locs ∧ lv_has ls 2 [(1, .int (nI k)), (0, .ref m0)]) (fun k => 240 - k) ?_ 0 _ _ ls ⟨by omega, hP, hD, hS, lv_sub hl [0, 1] rfl⟩
  rintro k H locs ls ⟨hi, hP, hD, hS, hl⟩ ih2
  refine lv_iload_n hx hb dX5_image_2 rfl (lv_at hl 0 rfl) ?_
  refine lv_sipush (v := (nI 240)) hx hb dX5_image_3 (by decide) ?_
  refine rn_icmp_ge (tgt := 31) hx hb dX5_image_6 (by decide) (by omega) (by omega) (fun c6 => ?_) (fun c6 => ?_)
  · skip
    have ek : k = 240 := Nat.le_antisymm hi c6
    subst ek
    refine lv_aload_n hx hb dX5_image_31 rfl (lv_at hl 1 rfl) ?_
    refine lv_iconst (v := (nI 1)) hx hb dX5_image_32 (by decide) ?_
    refine va_put (D := (dC, dI)) (ci := 5) (v := .int (nI 1)) (ty := .boolean) (C := RX5) (T := TX5) (N := 15) hx hb hts hiX5 tyX5 tyX5_ok nmX5 hown hK hP hD hS 0 rfl rfl 1 (by decide) (hts (.fieldLink RX5 179 "RestRegistersModel" "isImage" "Z") (by decide +kernel)) (fun _ h9 => h9) rfl (by decide +kernel) rfl rfl (Nat.le_of_ble_eq_true rfl) dX5_image_33 (fun H locs hP hD hS => ?_)
    have hP : va_P (dC, dI) vwCl [(m0, .inr (5, [.ref mw, .int (nI 1), .ref mt, .int (nI tl), .ref ml, .ref mz, .ref mi, .ref mr, .int (nI at0), .int (nI st0), .int (nI nu), .int (nI rm), .int (nI rh), .ref md, .ref mh])), (mw, .inl (cI, 480, .inl (nA (cpN Bw Bw 0 240 240))))] H := hP
    have hD : va_D A [(m0, .inr (5, [.ref mw, .int (nI 1), .ref mt, .int (nI tl), .ref ml, .ref mz, .ref mi, .ref mr, .int (nI at0), .int (nI st0), .int (nI nu), .int (nI rm), .int (nI rh), .ref md, .ref mh])), (mw, .inl (cI, 480, .inl (nA (cpN Bw Bw 0 240 240))))] := hD
    refine lv_iconst (v := (nI 1)) hx hb dX5_image_36 (by decide) ?_
    exact rr_iretW hx hb hr hlocks dX5_image_37 hP hD hS (rfl)
  refine lv_aload_n hx hb dX5_image_9 rfl (lv_at hl 1 rfl) ?_
  refine va_get (D := (dC, dI)) (ci := 5) (v := .ref mw) (C := RX5) (T := TX5) (N := 15) hx hb hts hiX5 hown hK hP 0 rfl rfl 0 (by decide) (hts (.fieldLink RX5 7 "RestRegistersModel" "w" "[I") (by decide +kernel)) (fun _ h9 => h9) rfl dX5_image_10 ?_
  refine lv_sipush (v := (nI 240)) hx hb dX5_image_13 (by decide) ?_
  refine lv_iload_n hx hb dX5_image_16 rfl (lv_at hl 0 rfl) ?_
  refine rn_iadd hx hb dX5_image_17 ?_
  refine lv_aload_n hx hb dX5_image_18 rfl (lv_at hl 1 rfl) ?_
  refine va_get (D := (dC, dI)) (ci := 5) (v := .ref mw) (C := RX5) (T := TX5) (N := 15) hx hb hts hiX5 hown hK hP 0 rfl rfl 0 (by decide) (hts (.fieldLink RX5 7 "RestRegistersModel" "w" "[I") (by decide +kernel)) (fun _ h9 => h9) rfl dX5_image_19 ?_
  refine lv_iload_n hx hb dX5_image_22 rfl (lv_at hl 0 rfl) ?_
  refine rn_iald hx hb hK hP 1 0 rfl rfl (i := k) (by omega) (by decide) (v := (nI (Bw k))) (congrArg nI (cpN_out (by omega))) dX5_image_23 ?_
  refine rn_iast hx hb hK hP hD hS 1 0 rfl rfl (i := 240 + k) (by omega) (by decide) (g := nA (uN (cpN Bw Bw 0 240 k) (240 + k) (Bw k))) (nA_upd _ _ _) dX5_image_24 (fun H locs hP hD hS => ?_)
  have hP : va_P (dC, dI) vwCl [(m0, .inr (5, [.ref mw, .int (bi im), .ref mt, .int (nI tl), .ref ml, .ref mz, .ref mi, .ref mr, .int (nI at0), .int (nI st0), .int (nI nu), .int (nI rm), .int (nI rh), .ref md, .ref mh])), (mw, .inl (cI, 480, .inl (nA (uN (cpN Bw Bw 0 240 k) (240 + k) (Bw k)))))] H := hP
  have hD : va_D A [(m0, .inr (5, [.ref mw, .int (bi im), .ref mt, .int (nI tl), .ref ml, .ref mz, .ref mi, .ref mr, .int (nI at0), .int (nI st0), .int (nI nu), .int (nI rm), .int (nI rh), .ref md, .ref mh])), (mw, .inl (cI, 480, .inl (nA (uN (cpN Bw Bw 0 240 k) (240 + k) (Bw k)))))] := hD
  have ec : nA (uN (cpN Bw Bw 0 240 k) (240 + k) (Bw k)) = nA (cpN Bw Bw 0 240 (k + 1)) := cpN_s rfl (by rw [Nat.zero_add])
  rw [ec] at hP hD
  have hP : va_P (dC, dI) vwCl [(m0, .inr (5, [.ref mw, .int (bi im), .ref mt, .int (nI tl), .ref ml, .ref mz, .ref mi, .ref mr, .int (nI at0), .int (nI st0), .int (nI nu), .int (nI rm), .int (nI rh), .ref md, .ref mh])), (mw, .inl (cI, 480, .inl (nA (cpN Bw Bw 0 240 (k + 1)))))] H := hP
  have hD : va_D A [(m0, .inr (5, [.ref mw, .int (bi im), .ref mt, .int (nI tl), .ref ml, .ref mz, .ref mi, .ref mr, .int (nI at0), .int (nI st0), .int (nI nu), .int (nI rm), .int (nI rh), .ref md, .ref mh])), (mw, .inl (cI, 480, .inl (nA (cpN Bw Bw 0 240 (k + 1)))))] := hD
  refine lv_iinc (v := (nI (k + 1))) (lv' := [(1, .int (nI (k + 1))), (0, .ref m0)]) hx hb dX5_image_25 hl (k := 0) rfl (rn_inc k 1) (by decide) rfl (fun ls hl => ?_)
  refine lv_goto (tgt := 2) hx hb dX5_image_28 (by decide) ?_
  exact ih2 (k + 1) _ _ ls ⟨by omega, hP, hD, hS, lv_sub hl [0, 1] rfl⟩ (by omega)
set_option maxHeartbeats 4000000 in
set_option maxRecDepth 100000 in
theorem c_X5_restore_0 (l : Launch) (dC : Nat → ClassId) (dI : Nat → Nat → Nat) (cI cJ cS : ClassId) (m0 mw mt ml mz mi mr md mh : Nat) (im : Bool) (tl at0 st0 nu rm rh : Nat) (Bw : Nat → Nat) (him : im = false) : Met l yX5_restore wsX5_restore ({ frames := 0, cells := 0, slots := 0, locals := 0 }) (va_Pc [.ref m0] (rB (dC, dI) vwCl [(m0, .inr (5, [.ref mw, .int (bi im), .ref mt, .int (nI tl), .ref ml, .ref mz, .ref mi, .ref mr, .int (nI at0), .int (nI st0), .int (nI nu), .int (nI rm), .int (nI rh), .ref md, .ref mh])), (mw, .inl (cI, 480, .inl (nA Bw)))] (tyz cI cJ cS))) (QcRead (-4)) 0 0 (fun _ => False) := by
  refine Met.ofW (cc := cX5_restore) (maxL := 2) (ret := (some .int)) (by decide) rfl ?_
  intro p e s m args below meth c s₁ B hml hv
  obtain ⟨rfl, hP, hKK⟩ := hv
  have hK := hKK.1
  have hx := B.exec
  have hb := B.bytes
  have hr := B.returns
  have hts := atoms_spec (ws := wsX5_restore) B.pre
  have hown : s.vm.findClass RX5 = some m.cls := findClass_of_methodNamed B.named
  have hlocks := B.notSynchronized
  have hiX5 : ∀ w ∈ wsX50, w ∈ wsX5_restore := by decide +kernel
  have hl := lv_entry ([.ref m0]) (n := 2) (Nat.le_of_ble_eq_true rfl)
  rw [lg_entry_eq]
  generalize (lg_sl ([.ref m0]) ++ List.replicate (2 - (lg_sl ([.ref m0])).length) Slot.unset).toArray = ls at hl ⊢
  have hl : lv_has ls 2 [(0, .ref m0)] := hl
  refine lv_aload_n hx hb dX5_restore_0 rfl (lv_at hl 0 rfl) ?_
  refine va_get (D := (dC, dI)) (ci := 5) (v := .int (bi im)) (C := RX5) (T := TX5) (N := 15) hx hb hts hiX5 hown hK hP 0 rfl rfl 1 (by decide) (hts (.fieldLink RX5 179 "RestRegistersModel" "isImage" "Z") (by decide +kernel)) (fun _ h9 => h9) rfl dX5_restore_1 ?_
  refine rb_if_ne (tgt := 10) hx hb dX5_restore_4 (by decide) (fun c4 => ?_) (fun c4 => ?_)
  · skip
    exact absurd (c4.symm.trans him) (by decide)
  refine lv_bipush (v := (-4)) hx hb dX5_restore_7 (by decide) ?_
  exact rr_iret hx hb hr hlocks dX5_restore_9 (rfl)
set_option maxHeartbeats 4000000 in
set_option maxRecDepth 100000 in
theorem c_X5_restore_1 (l : Launch) (dC : Nat → ClassId) (dI : Nat → Nat → Nat) (cI cJ cS : ClassId) (sz : Nat) (m0 mw mt ml mz mi mr md mh : Nat) (im : Bool) (tl at0 st0 nu rm rh : Nat) (Bw : Nat → Nat) (him : im = true) : Met l yX5_restore wsX5_restore ({ frames := 0, cells := 0, slots := 0, locals := 0 }) (va_Pc [.ref m0] (rW (dC, dI) vwCl [(m0, .inr (5, [.ref mw, .int (bi im), .ref mt, .int (nI tl), .ref ml, .ref mz, .ref mi, .ref mr, .int (nI at0), .int (nI st0), .int (nI nu), .int (nI rm), .int (nI rh), .ref md, .ref mh])), (mw, .inl (cI, 480, .inl (nA Bw)))] (tyz cI cJ cS) sz)) (qI (nI 1) (dC, dI) vwCl [(m0, .inr (5, [.ref mw, .int (bi im), .ref mt, .int (nI tl), .ref ml, .ref mz, .ref mi, .ref mr, .int (nI at0), .int (nI st0), .int (nI nu), .int (nI rm), .int (nI rh), .ref md, .ref mh])), (mw, .inl (cI, 480, .inl (nA (cpN Bw Bw 240 0 240))))] (va_A [(m0, .inr (5, [.ref mw, .int (bi im), .ref mt, .int (nI tl), .ref ml, .ref mz, .ref mi, .ref mr, .int (nI at0), .int (nI st0), .int (nI nu), .int (nI rm), .int (nI rh), .ref md, .ref mh])), (mw, .inl (cI, 480, .inl (nA Bw)))] sz)) 0 0 (va_A [(m0, .inr (5, [.ref mw, .int (bi im), .ref mt, .int (nI tl), .ref ml, .ref mz, .ref mi, .ref mr, .int (nI at0), .int (nI st0), .int (nI nu), .int (nI rm), .int (nI rh), .ref md, .ref mh])), (mw, .inl (cI, 480, .inl (nA Bw)))] sz) := by
  refine Met.ofW (cc := cX5_restore) (maxL := 2) (ret := (some .int)) (by decide) rfl ?_
  intro p e s m args below meth c s₁ B hml hv
  obtain ⟨rfl, hsz, hP, hKK, hD0⟩ := hv
  have hK := hKK.1
  have hx := B.exec
  have hb := B.bytes
  have hr := B.returns
  have hts := atoms_spec (ws := wsX5_restore) B.pre
  have hown : s.vm.findClass RX5 = some m.cls := findClass_of_methodNamed B.named
  have hlocks := B.notSynchronized
  subst hsz
  have hD := hD0.self (sz := s.heap.size)
  generalize hAe : va_A [(m0, .inr (5, [.ref mw, .int (bi im), .ref mt, .int (nI tl), .ref ml, .ref mz, .ref mi, .ref mr, .int (nI at0), .int (nI st0), .int (nI nu), .int (nI rm), .int (nI rh), .ref md, .ref mh])), (mw, .inl (cI, 480, .inl (nA Bw)))] s.heap.size = A at hD ⊢
  have hA : ∀ q : Nat, s.heap.size ≤ q → A q := fun q h => by rw [← hAe]; exact Or.inr h
  have hS : va_S A s.heap s.heap [] := va_S.rf
  have hP : va_P (dC, dI) vwCl [(m0, .inr (5, [.ref mw, .int (bi im), .ref mt, .int (nI tl), .ref ml, .ref mz, .ref mi, .ref mr, .int (nI at0), .int (nI st0), .int (nI nu), .int (nI rm), .int (nI rh), .ref md, .ref mh])), (mw, .inl (cI, 480, .inl (nA Bw)))] s.heap := hP
  have hiX5 : ∀ w ∈ wsX50, w ∈ wsX5_restore := by decide +kernel
  have hl := lv_entry ([.ref m0]) (n := 2) (Nat.le_of_ble_eq_true rfl)
  rw [lg_entry_eq]
  generalize (lg_sl ([.ref m0]) ++ List.replicate (2 - (lg_sl ([.ref m0])).length) Slot.unset).toArray = ls at hl ⊢
  have hl : lv_has ls 2 [(0, .ref m0)] := hl
  refine lv_aload_n hx hb dX5_restore_0 rfl (lv_at hl 0 rfl) ?_
  refine va_get (D := (dC, dI)) (ci := 5) (v := .int (bi im)) (C := RX5) (T := TX5) (N := 15) hx hb hts hiX5 hown hK hP 0 rfl rfl 1 (by decide) (hts (.fieldLink RX5 179 "RestRegistersModel" "isImage" "Z") (by decide +kernel)) (fun _ h9 => h9) rfl dX5_restore_1 ?_
  refine rb_if_ne (tgt := 10) hx hb dX5_restore_4 (by decide) (fun c4 => ?_) (fun c4 => ?_)
  · skip
    refine lv_iconst (v := (nI 0)) hx hb dX5_restore_10 (by decide) ?_
    refine lv_istore_n (lv' := [(1, .int (nI 0)), (0, .ref m0)]) hx hb dX5_restore_11 rfl hl (by decide) rfl (fun ls hl => ?_)
    have ec : nA Bw = nA (cpN Bw Bw 240 0 0) := cpN_0 _ _ _ _
    rw [ec] at hP hD
    have hP : va_P (dC, dI) vwCl [(m0, .inr (5, [.ref mw, .int (bi im), .ref mt, .int (nI tl), .ref ml, .ref mz, .ref mi, .ref mr, .int (nI at0), .int (nI st0), .int (nI nu), .int (nI rm), .int (nI rh), .ref md, .ref mh])), (mw, .inl (cI, 480, .inl (nA (cpN Bw Bw 240 0 0))))] s.heap := hP
    have hD : va_D A [(m0, .inr (5, [.ref mw, .int (bi im), .ref mt, .int (nI tl), .ref ml, .ref mz, .ref mi, .ref mr, .int (nI at0), .int (nI st0), .int (nI nu), .int (nI rm), .int (nI rh), .ref md, .ref mh])), (mw, .inl (cI, 480, .inl (nA (cpN Bw Bw 240 0 0))))] := hD
    refine rlW1 (A1 := Nat) (fun H locs ls => W p l e _ s m _ below meth c H locs 0 0 _ (F0 m 12 ls [])) (fun k H locs ls => k ≤ 240 ∧ va_P (dC, dI) vwCl [(m0, .inr (5, [.ref mw, .int (bi im), .ref mt, .int (nI tl), .ref ml, .ref mz, .ref mi, .ref mr, .int (nI at0), .int (nI st0), .int (nI nu), .int (nI rm), .int (nI rh), .ref md, .ref mh])), (mw, .inl (cI, 480, .inl (nA (cpN Bw Bw 240 0 k))))] H ∧ va_D A [(m0, .inr (5, [.ref mw, .int (bi im), .ref mt, .int (nI tl), .ref ml, .ref mz, .ref mi, .ref mr, .int (nI at0), .int (nI st0), .int (nI nu), .int (nI rm), .int (nI rh), .ref md, .ref mh])), (mw, .inl (cI, 480, .inl (nA (cpN Bw Bw 240 0 k))))] ∧ va_S A s.heap H locs ∧ lv_has ls 2 [(1, .int (nI k)), (0, .ref m0)]) (fun k => 240 - k) ?_ 0 _ _ ls ⟨by omega, hP, hD, hS, lv_sub hl [0, 1] rfl⟩
    rintro k H locs ls ⟨hi, hP, hD, hS, hl⟩ ih12
    refine lv_iload_n hx hb dX5_restore_12 rfl (lv_at hl 0 rfl) ?_
    refine lv_sipush (v := (nI 240)) hx hb dX5_restore_13 (by decide) ?_
    refine rn_icmp_ge (tgt := 41) hx hb dX5_restore_16 (by decide) (by omega) (by omega) (fun c16 => ?_) (fun c16 => ?_)
    · skip
      have ek : k = 240 := Nat.le_antisymm hi c16
      subst ek
      refine lv_iconst (v := (nI 1)) hx hb dX5_restore_41 (by decide) ?_
      exact rr_iretW hx hb hr hlocks dX5_restore_42 hP hD hS (rfl)
    refine lv_aload_n hx hb dX5_restore_19 rfl (lv_at hl 1 rfl) ?_
    refine va_get (D := (dC, dI)) (ci := 5) (v := .ref mw) (C := RX5) (T := TX5) (N := 15) hx hb hts hiX5 hown hK hP 0 rfl rfl 0 (by decide) (hts (.fieldLink RX5 7 "RestRegistersModel" "w" "[I") (by decide +kernel)) (fun _ h9 => h9) rfl dX5_restore_20 ?_
    refine lv_iload_n hx hb dX5_restore_23 rfl (lv_at hl 0 rfl) ?_
    refine lv_aload_n hx hb dX5_restore_24 rfl (lv_at hl 1 rfl) ?_
    refine va_get (D := (dC, dI)) (ci := 5) (v := .ref mw) (C := RX5) (T := TX5) (N := 15) hx hb hts hiX5 hown hK hP 0 rfl rfl 0 (by decide) (hts (.fieldLink RX5 7 "RestRegistersModel" "w" "[I") (by decide +kernel)) (fun _ h9 => h9) rfl dX5_restore_25 ?_
    refine lv_sipush (v := (nI 240)) hx hb dX5_restore_28 (by decide) ?_
    refine lv_iload_n hx hb dX5_restore_31 rfl (lv_at hl 0 rfl) ?_
    refine rn_iadd hx hb dX5_restore_32 ?_
    refine rn_iald hx hb hK hP 1 0 rfl rfl (i := 240 + k) (by omega) (by decide) (v := (nI (Bw (240 + k)))) (congrArg nI (cpN_out (by omega))) dX5_restore_33 ?_
    refine rn_iast hx hb hK hP hD hS 1 0 rfl rfl (i := k) (by omega) (by decide) (g := nA (uN (cpN Bw Bw 240 0 k) k (Bw (240 + k)))) (nA_upd _ _ _) dX5_restore_34 (fun H locs hP hD hS => ?_)
    have hP : va_P (dC, dI) vwCl [(m0, .inr (5, [.ref mw, .int (bi im), .ref mt, .int (nI tl), .ref ml, .ref mz, .ref mi, .ref mr, .int (nI at0), .int (nI st0), .int (nI nu), .int (nI rm), .int (nI rh), .ref md, .ref mh])), (mw, .inl (cI, 480, .inl (nA (uN (cpN Bw Bw 240 0 k) k (Bw (240 + k))))))] H := hP
    have hD : va_D A [(m0, .inr (5, [.ref mw, .int (bi im), .ref mt, .int (nI tl), .ref ml, .ref mz, .ref mi, .ref mr, .int (nI at0), .int (nI st0), .int (nI nu), .int (nI rm), .int (nI rh), .ref md, .ref mh])), (mw, .inl (cI, 480, .inl (nA (uN (cpN Bw Bw 240 0 k) k (Bw (240 + k))))))] := hD
    have ec : nA (uN (cpN Bw Bw 240 0 k) k (Bw (240 + k))) = nA (cpN Bw Bw 240 0 (k + 1)) := cpN_s (by rw [Nat.zero_add]) rfl
    rw [ec] at hP hD
    have hP : va_P (dC, dI) vwCl [(m0, .inr (5, [.ref mw, .int (bi im), .ref mt, .int (nI tl), .ref ml, .ref mz, .ref mi, .ref mr, .int (nI at0), .int (nI st0), .int (nI nu), .int (nI rm), .int (nI rh), .ref md, .ref mh])), (mw, .inl (cI, 480, .inl (nA (cpN Bw Bw 240 0 (k + 1)))))] H := hP
    have hD : va_D A [(m0, .inr (5, [.ref mw, .int (bi im), .ref mt, .int (nI tl), .ref ml, .ref mz, .ref mi, .ref mr, .int (nI at0), .int (nI st0), .int (nI nu), .int (nI rm), .int (nI rh), .ref md, .ref mh])), (mw, .inl (cI, 480, .inl (nA (cpN Bw Bw 240 0 (k + 1)))))] := hD
    refine lv_iinc (v := (nI (k + 1))) (lv' := [(1, .int (nI (k + 1))), (0, .ref m0)]) hx hb dX5_restore_35 hl (k := 0) rfl (rn_inc k 1) (by decide) rfl (fun ls hl => ?_)
    refine lv_goto (tgt := 12) hx hb dX5_restore_38 (by decide) ?_
    exact ih12 (k + 1) _ _ ls ⟨by omega, hP, hD, hS, lv_sub hl [0, 1] rfl⟩ (by omega)
  exact absurd (c4.symm.trans him) (by decide)
