set_option maxHeartbeats 4000000 in
set_option maxRecDepth 100000 in
theorem c_X3_addedPlain (l : Launch) (w a b : Nat) (hw : 0 < w) (hwb : w ≤ 19) (ha : a < w) (hb2 : b < w) : Met l yX3_addedPlain wsX3_addedPlain ({ frames := 0, cells := 0, slots := 0, locals := 0 }) (va_Pc [.int (nI w), .int (nI a), .int (nI b)] (fun _ => True)) (QcRead (nI (plainA w a b))) 0 0 (fun _ => False) := by
  refine Met.ofW (cc := cX3_addedPlain) (maxL := 3) (ret := (some .int)) (by decide) rfl ?_
  intro p e s m args below meth c s₁ B hml hv
  obtain ⟨rfl, -⟩ := hv
  have hx := B.exec
  have hb := B.bytes
  have hr := B.returns
  have hts := atoms_spec (ws := wsX3_addedPlain) B.pre
  have hown : s.vm.findClass RX3 = some m.cls := findClass_of_methodNamed B.named
  have hlocks := B.notSynchronized
  have hl := lv_entry ([.int (nI w), .int (nI a), .int (nI b)]) (n := 3) (Nat.le_of_ble_eq_true rfl)
  rw [lg_entry_eq]
  generalize (lg_sl ([.int (nI w), .int (nI a), .int (nI b)]) ++ List.replicate (3 - (lg_sl ([.int (nI w), .int (nI a), .int (nI b)])).length) Slot.unset).toArray = ls at hl ⊢
  have hl : lv_has ls 3 [(0, .int (nI w)), (1, .int (nI a)), (2, .int (nI b))] := hl
  refine lv_iload_n hx hb dX3_addedPlain_0 rfl (lv_at hl 1 rfl) ?_
  refine lv_iload_n hx hb dX3_addedPlain_1 rfl (lv_at hl 2 rfl) ?_
  refine rn_iadd hx hb dX3_addedPlain_2 ?_
  refine lv_iload_n hx hb dX3_addedPlain_3 rfl (lv_at hl 0 rfl) ?_
  refine rn_irem hx hb dX3_addedPlain_4 (by omega) (by omega) (by omega) ?_
  exact rr_iret hx hb hr hlocks dX3_addedPlain_5 (rfl)
set_option maxHeartbeats 4000000 in
set_option maxRecDepth 100000 in
theorem c_X5_plain (l : Launch) (w a b : Nat) (hw : 0 < w) (hwb : w ≤ 19) (ha : a < w) (hb2 : b < w) : Met l yX5_plain wsX5_plain ({ frames := 0, cells := 0, slots := 0, locals := 0 }) (va_Pc [.int (nI w), .int (nI a), .int (nI b)] (fun _ => True)) (QcRead (nI (plainA w a b))) 0 0 (fun _ => False) := by
  refine Met.ofW (cc := cX5_plain) (maxL := 3) (ret := (some .int)) (by decide) rfl ?_
  intro p e s m args below meth c s₁ B hml hv
  obtain ⟨rfl, -⟩ := hv
  have hx := B.exec
  have hb := B.bytes
  have hr := B.returns
  have hts := atoms_spec (ws := wsX5_plain) B.pre
  have hown : s.vm.findClass RX5 = some m.cls := findClass_of_methodNamed B.named
  have hlocks := B.notSynchronized
  have hl := lv_entry ([.int (nI w), .int (nI a), .int (nI b)]) (n := 3) (Nat.le_of_ble_eq_true rfl)
  rw [lg_entry_eq]
  generalize (lg_sl ([.int (nI w), .int (nI a), .int (nI b)]) ++ List.replicate (3 - (lg_sl ([.int (nI w), .int (nI a), .int (nI b)])).length) Slot.unset).toArray = ls at hl ⊢
  have hl : lv_has ls 3 [(0, .int (nI w)), (1, .int (nI a)), (2, .int (nI b))] := hl
  refine lv_iload_n hx hb dX5_plain_0 rfl (lv_at hl 1 rfl) ?_
  refine lv_iload_n hx hb dX5_plain_1 rfl (lv_at hl 2 rfl) ?_
  refine rn_iadd hx hb dX5_plain_2 ?_
  refine lv_iload_n hx hb dX5_plain_3 rfl (lv_at hl 0 rfl) ?_
  refine rn_irem hx hb dX5_plain_4 (by omega) (by omega) (by omega) ?_
  exact rr_iret hx hb hr hlocks dX5_plain_5 (rfl)
set_option maxHeartbeats 4000000 in
set_option maxRecDepth 100000 in
theorem c_X3_addedLosing (l : Launch) (w a b : Nat) (hw : 0 < w) (hwb : w ≤ 19) (ha : a < w) (hb2 : b < w) : Met l yX3_addedLosing wsX3_addedLosing ({ frames := 1, cells := 0, slots := 0, locals := 24 }) (va_Pc [.int (nI w), .int (nI a), .int (nI b)] (fun _ => True)) (QcRead (nI (losA w a b))) 0 0 (fun _ => False) := by
  refine Met.ofW (cc := cX3_addedLosing) (maxL := 3) (ret := (some .int)) (by decide) rfl ?_
  intro p e s m args below meth c s₁ B hml hv
  obtain ⟨rfl, -⟩ := hv
  have hx := B.exec
  have hb := B.bytes
  have hr := B.returns
  have hts := atoms_spec (ws := wsX3_addedLosing) B.pre
  have hown : s.vm.findClass RX3 = some m.cls := findClass_of_methodNamed B.named
  have hlocks := B.notSynchronized
  have hl := lv_entry ([.int (nI w), .int (nI a), .int (nI b)]) (n := 3) (Nat.le_of_ble_eq_true rfl)
  rw [lg_entry_eq]
  generalize (lg_sl ([.int (nI w), .int (nI a), .int (nI b)]) ++ List.replicate (3 - (lg_sl ([.int (nI w), .int (nI a), .int (nI b)])).length) Slot.unset).toArray = ls at hl ⊢
  have hl : lv_has ls 3 [(0, .int (nI w)), (1, .int (nI a)), (2, .int (nI b))] := hl
  refine lv_iload_n hx hb dX3_addedLosing_0 rfl (lv_at hl 1 rfl) ?_
  refine lv_iload_n hx hb dX3_addedLosing_1 rfl (lv_at hl 2 rfl) ?_
  refine rn_iadd hx hb dX3_addedLosing_2 ?_
  refine lv_iload_n hx hb dX3_addedLosing_3 rfl (lv_at hl 0 rfl) ?_
  refine rn_icmp_ge (tgt := 13) hx hb dX3_addedLosing_4 (by decide) (by omega) (by omega) (fun c4 => ?_) (fun c4 => ?_)
  · skip
    refine lv_iload_n hx hb dX3_addedLosing_13 rfl (lv_at hl 1 rfl) ?_
    refine lv_iload_n hx hb dX3_addedLosing_14 rfl (lv_at hl 2 rfl) ?_
    refine rn_iadd hx hb dX3_addedLosing_15 ?_
    refine lv_iload_n hx hb dX3_addedLosing_16 rfl (lv_at hl 0 rfl) ?_
    refine rn_isub hx hb dX3_addedLosing_17 (by omega) ?_
    refine lv_iconst (v := (nI 1)) hx hb dX3_addedLosing_18 (by decide) ?_
    refine lv_isub hx hb dX3_addedLosing_19 ?_
    refine lv_iconst (v := (nI 0)) hx hb dX3_addedLosing_20 (by decide) ?_
    refine va_mmax hx hb (hml.trans hl.1.symm) hown (hts (.methodLink RX3 44 Lib.Math.max.name) (by decide +kernel)) (hts (.static Lib.Math.max.name) (by decide +kernel)) (hts (.initialized "java/lang/Math") (by decide +kernel)) (hts (.code Lib.Math.max.name Lib.Math.max.code 2 (some .int)) (by decide +kernel)) (Nat.le_of_ble_eq_true rfl) (Nat.le_of_ble_eq_true rfl) (Nat.zero_le _) (Nat.zero_le _) dX3_addedLosing_21 ?_
    refine rr_top (y := nI (a + b - w - 1)) (mx_sub1 (by omega)) ?_
    exact rr_iret hx hb hr hlocks dX3_addedLosing_24 (by first | (rw [losA, if_pos c4]) | (rw [losA, if_neg (Nat.not_lt.mpr c4)]))
  refine lv_iload_n hx hb dX3_addedLosing_7 rfl (lv_at hl 1 rfl) ?_
  refine lv_iload_n hx hb dX3_addedLosing_8 rfl (lv_at hl 2 rfl) ?_
  refine rn_iadd hx hb dX3_addedLosing_9 ?_
  refine lv_goto (tgt := 24) hx hb dX3_addedLosing_10 (by decide) ?_
  exact rr_iret hx hb hr hlocks dX3_addedLosing_24 (by first | (rw [losA, if_pos c4]) | (rw [losA, if_neg (Nat.not_lt.mpr c4)]))
set_option maxHeartbeats 4000000 in
set_option maxRecDepth 100000 in
theorem c_X5_losing (l : Launch) (w a b : Nat) (hw : 0 < w) (hwb : w ≤ 19) (ha : a < w) (hb2 : b < w) : Met l yX5_losing wsX5_losing ({ frames := 1, cells := 0, slots := 0, locals := 22 }) (va_Pc [.int (nI w), .int (nI a), .int (nI b)] (fun _ => True)) (QcRead (nI (losA w a b))) 0 0 (fun _ => False) := by
  refine Met.ofW (cc := cX5_losing) (maxL := 4) (ret := (some .int)) (by decide) rfl ?_
  intro p e s m args below meth c s₁ B hml hv
  obtain ⟨rfl, -⟩ := hv
  have hx := B.exec
  have hb := B.bytes
  have hr := B.returns
  have hts := atoms_spec (ws := wsX5_losing) B.pre
  have hown : s.vm.findClass RX5 = some m.cls := findClass_of_methodNamed B.named
  have hlocks := B.notSynchronized
  have hl := lv_entry ([.int (nI w), .int (nI a), .int (nI b)]) (n := 4) (Nat.le_of_ble_eq_true rfl)
  rw [lg_entry_eq]
  generalize (lg_sl ([.int (nI w), .int (nI a), .int (nI b)]) ++ List.replicate (4 - (lg_sl ([.int (nI w), .int (nI a), .int (nI b)])).length) Slot.unset).toArray = ls at hl ⊢
  have hl : lv_has ls 4 [(0, .int (nI w)), (1, .int (nI a)), (2, .int (nI b))] := hl
  refine lv_iload_n hx hb dX5_losing_0 rfl (lv_at hl 0 rfl) ?_
  refine lv_iload_n hx hb dX5_losing_1 rfl (lv_at hl 1 rfl) ?_
  refine lv_iload_n hx hb dX5_losing_2 rfl (lv_at hl 2 rfl) ?_
  refine rr_callR (va_runS (As := [.int (nI w), .int (nI a), .int (nI b)]) (rest := []) ⟨hx, hb, hml, hown, hts⟩ (c_X5_plain l w a b (by first | assumption | omega) (by first | assumption | omega) (by first | assumption | omega) (by first | assumption | omega)) (va_cwS 3 hts gX5_losing_X5_plain rfl rfl rfl (by decide +kernel) ⟨Nat.le_of_ble_eq_true rfl, Nat.le_of_ble_eq_true rfl⟩) rr_preT rfl rfl hl.1 rfl (lv_room (Nat.le_of_ble_eq_true rfl)) dX5_losing_3 ⟨Nat.zero_le _, Nat.zero_le _⟩) ?_
  refine lv_istore_n (lv' := [(3, .int (nI (plainA w a b))), (0, .int (nI w)), (1, .int (nI a)), (2, .int (nI b))]) hx hb dX5_losing_6 rfl hl (by decide) rfl (fun ls hl => ?_)
  have hpl := plainA_lt a b hw
  refine lv_iload_n hx hb dX5_losing_7 rfl (lv_at hl 2 rfl) ?_
  refine lv_iload_n hx hb dX5_losing_8 rfl (lv_at hl 3 rfl) ?_
  refine rn_iadd hx hb dX5_losing_9 ?_
  refine lv_iload_n hx hb dX5_losing_10 rfl (lv_at hl 1 rfl) ?_
  refine rn_icmp_lt (tgt := 24) hx hb dX5_losing_11 (by decide) (by omega) (by omega) (fun c11 => ?_) (fun c11 => ?_)
  · skip
    refine lv_iload_n hx hb dX5_losing_24 rfl (lv_at hl 0 rfl) ?_
    exact rr_iret hx hb hr hlocks dX5_losing_25 (by rw [← losing_eq ha hb2]; first | (rw [if_pos ⟨c11, c15⟩]; done) | (rw [if_neg (fun q => by omega)]))
  refine lv_iload_n hx hb dX5_losing_14 rfl (lv_at hl 0 rfl) ?_
  refine rn_if_le (tgt := 24) hx hb dX5_losing_15 (by decide) (by omega) (fun c15 => ?_) (fun c15 => ?_)
  · skip
    refine lv_iload_n hx hb dX5_losing_24 rfl (lv_at hl 0 rfl) ?_
    exact rr_iret hx hb hr hlocks dX5_losing_25 (by rw [← losing_eq ha hb2]; first | (rw [if_pos ⟨c11, c15⟩]; done) | (rw [if_neg (fun q => by omega)]))
  refine lv_iload_n hx hb dX5_losing_18 rfl (lv_at hl 0 rfl) ?_
  refine lv_iconst (v := (nI 1)) hx hb dX5_losing_19 (by decide) ?_
  refine rn_isub hx hb dX5_losing_20 (by omega) ?_
  refine lv_goto (tgt := 25) hx hb dX5_losing_21 (by decide) ?_
  exact rr_iret hx hb hr hlocks dX5_losing_25 (by rw [← losing_eq ha hb2]; first | (rw [if_pos ⟨c11, c15⟩]; done) | (rw [if_neg (fun q => by omega)]))
set_option maxHeartbeats 4000000 in
set_option maxRecDepth 100000 in
theorem c_X3_addedByKind (l : Launch) (kd w a b : Nat) (hkd : kd ≤ 4) (hw : 0 < w) (hwb : w ≤ 19) (ha : a < w) (hb2 : b < w) : Met l yX3_addedByKind wsX3_addedByKind ({ frames := 2, cells := 0, slots := 0, locals := 46 }) (va_Pc [.int (nI kd), .int (nI w), .int (nI a), .int (nI b)] (fun _ => True)) (QcRead (nI (addK kd w a b))) 0 0 (fun _ => False) := by
  refine Met.ofW (cc := cX3_addedByKind) (maxL := 4) (ret := (some .int)) (by decide) rfl ?_
  intro p e s m args below meth c s₁ B hml hv
  obtain ⟨rfl, -⟩ := hv
  have hx := B.exec
  have hb := B.bytes
  have hr := B.returns
  have hts := atoms_spec (ws := wsX3_addedByKind) B.pre
  have hown : s.vm.findClass RX3 = some m.cls := findClass_of_methodNamed B.named
  have hlocks := B.notSynchronized
  have hl := lv_entry ([.int (nI kd), .int (nI w), .int (nI a), .int (nI b)]) (n := 4) (Nat.le_of_ble_eq_true rfl)
  rw [lg_entry_eq]
  generalize (lg_sl ([.int (nI kd), .int (nI w), .int (nI a), .int (nI b)]) ++ List.replicate (4 - (lg_sl ([.int (nI kd), .int (nI w), .int (nI a), .int (nI b)])).length) Slot.unset).toArray = ls at hl ⊢
  have hl : lv_has ls 4 [(0, .int (nI kd)), (1, .int (nI w)), (2, .int (nI a)), (3, .int (nI b))] := hl
  refine lv_iload_n hx hb dX3_addedByKind_0 rfl (lv_at hl 0 rfl) ?_
  by_cases w1_1 : kd = 1
  · refine rn_top w1_1 ?_
    refine lv_tableIn (off := 31) (tgt := 32) hx hb dX3_addedByKind_1 (by decide) (by decide) (by decide) (by decide) ?_
    refine lv_iload_n hx hb dX3_addedByKind_32 rfl (lv_at hl 1 rfl) ?_
    refine lv_iload_n hx hb dX3_addedByKind_33 rfl (lv_at hl 2 rfl) ?_
    refine lv_iload_n hx hb dX3_addedByKind_34 rfl (lv_at hl 3 rfl) ?_
    refine rr_callR (va_runS (As := [.int (nI w), .int (nI a), .int (nI b)]) (rest := []) ⟨hx, hb, hml, hown, hts⟩ (c_X3_addedLosing l w a b (by first | assumption | omega) (by first | assumption | omega) (by first | assumption | omega) (by first | assumption | omega)) (va_cwS 3 hts gX3_addedByKind_X3_addedLosing rfl rfl rfl (by decide +kernel) ⟨Nat.le_of_ble_eq_true rfl, Nat.le_of_ble_eq_true rfl⟩) rr_preT rfl rfl hl.1 rfl (lv_room (Nat.le_of_ble_eq_true rfl)) dX3_addedByKind_35 ⟨Nat.zero_le _, Nat.zero_le _⟩) ?_
    exact rr_iret hx hb hr hlocks dX3_addedByKind_38 (congrArg nI (by unfold addK; (repeat' split) <;> omega))
  by_cases w1_2 : kd = 2
  · refine rn_top w1_2 ?_
    refine lv_tableIn (off := 38) (tgt := 39) hx hb dX3_addedByKind_1 (by decide) (by decide) (by decide) (by decide) ?_
    refine lv_iload_n hx hb dX3_addedByKind_39 rfl (lv_at hl 3 rfl) ?_
    refine lv_iconst (v := (nI 1)) hx hb dX3_addedByKind_40 (by decide) ?_
    refine rn_icmp_ne (tgt := 48) hx hb dX3_addedByKind_41 (by decide) (by omega) (by omega) (fun c41 => ?_) (fun c41 => ?_)
    · skip
      refine lv_iload_n hx hb dX3_addedByKind_48 rfl (lv_at hl 1 rfl) ?_
      refine lv_iload_n hx hb dX3_addedByKind_49 rfl (lv_at hl 2 rfl) ?_
      refine lv_iload_n hx hb dX3_addedByKind_50 rfl (lv_at hl 3 rfl) ?_
      refine rr_callR (va_runS (As := [.int (nI w), .int (nI a), .int (nI b)]) (rest := []) ⟨hx, hb, hml, hown, hts⟩ (c_X3_addedPlain l w a b (by first | assumption | omega) (by first | assumption | omega) (by first | assumption | omega) (by first | assumption | omega)) (va_cwS 3 hts gX3_addedByKind_X3_addedPlain rfl rfl rfl (by decide +kernel) ⟨Nat.le_of_ble_eq_true rfl, Nat.le_of_ble_eq_true rfl⟩) rr_preT rfl rfl hl.1 rfl (lv_room (Nat.le_of_ble_eq_true rfl)) dX3_addedByKind_51 ⟨Nat.zero_le _, Nat.zero_le _⟩) ?_
      exact rr_iret hx hb hr hlocks dX3_addedByKind_54 (congrArg nI (by unfold addK; (repeat' split) <;> omega))
    refine lv_iload_n hx hb dX3_addedByKind_44 rfl (lv_at hl 2 rfl) ?_
    refine lv_goto (tgt := 54) hx hb dX3_addedByKind_45 (by decide) ?_
    exact rr_iret hx hb hr hlocks dX3_addedByKind_54 (congrArg nI (by unfold addK; (repeat' split) <;> omega))
  by_cases w1_3 : kd = 3
  · refine rn_top w1_3 ?_
    refine lv_tableIn (off := 54) (tgt := 55) hx hb dX3_addedByKind_1 (by decide) (by decide) (by decide) (by decide) ?_
    refine lv_iload_n hx hb dX3_addedByKind_55 rfl (lv_at hl 2 rfl) ?_
    refine lv_iload_n hx hb dX3_addedByKind_56 rfl (lv_at hl 3 rfl) ?_
    refine rn_icmp_ne (tgt := 64) hx hb dX3_addedByKind_57 (by decide) (by omega) (by omega) (fun c57 => ?_) (fun c57 => ?_)
    · skip
      refine lv_iload_n hx hb dX3_addedByKind_64 rfl (lv_at hl 1 rfl) ?_
      refine lv_iload_n hx hb dX3_addedByKind_65 rfl (lv_at hl 2 rfl) ?_
      refine lv_iload_n hx hb dX3_addedByKind_66 rfl (lv_at hl 3 rfl) ?_
      refine rr_callR (va_runS (As := [.int (nI w), .int (nI a), .int (nI b)]) (rest := []) ⟨hx, hb, hml, hown, hts⟩ (c_X3_addedLosing l w a b (by first | assumption | omega) (by first | assumption | omega) (by first | assumption | omega) (by first | assumption | omega)) (va_cwS 3 hts gX3_addedByKind_X3_addedLosing rfl rfl rfl (by decide +kernel) ⟨Nat.le_of_ble_eq_true rfl, Nat.le_of_ble_eq_true rfl⟩) rr_preT rfl rfl hl.1 rfl (lv_room (Nat.le_of_ble_eq_true rfl)) dX3_addedByKind_67 ⟨Nat.zero_le _, Nat.zero_le _⟩) ?_
      exact rr_iret hx hb hr hlocks dX3_addedByKind_70 (congrArg nI (by unfold addK; (repeat' split) <;> omega))
    refine lv_iconst (v := (nI 0)) hx hb dX3_addedByKind_60 (by decide) ?_
    refine lv_goto (tgt := 70) hx hb dX3_addedByKind_61 (by decide) ?_
    exact rr_iret hx hb hr hlocks dX3_addedByKind_70 (congrArg nI (by unfold addK; (repeat' split) <;> omega))
  by_cases w1_4 : kd = 4
  · refine rn_top w1_4 ?_
    refine lv_tableIn (off := 70) (tgt := 71) hx hb dX3_addedByKind_1 (by decide) (by decide) (by decide) (by decide) ?_
    refine lv_iload_n hx hb dX3_addedByKind_71 rfl (lv_at hl 3 rfl) ?_
    refine lv_iconst (v := (nI 1)) hx hb dX3_addedByKind_72 (by decide) ?_
    refine rn_icmp_eq (tgt := 83) hx hb dX3_addedByKind_73 (by decide) (by omega) (by omega) (fun c73 => ?_) (fun c73 => ?_)
    · skip
      refine lv_iload_n hx hb dX3_addedByKind_83 rfl (lv_at hl 2 rfl) ?_
      refine lv_goto (tgt := 93) hx hb dX3_addedByKind_84 (by decide) ?_
      exact rr_iret hx hb hr hlocks dX3_addedByKind_93 (congrArg nI (by unfold addK; (repeat' split) <;> omega))
    refine lv_iload_n hx hb dX3_addedByKind_76 rfl (lv_at hl 3 rfl) ?_
    refine lv_iload_n hx hb dX3_addedByKind_77 rfl (lv_at hl 1 rfl) ?_
    refine lv_iconst (v := (nI 2)) hx hb dX3_addedByKind_78 (by decide) ?_
    refine rn_idiv hx hb dX3_addedByKind_79 (by omega) (by omega) (by omega) ?_
    refine rn_icmp_le (tgt := 87) hx hb dX3_addedByKind_80 (by decide) (by omega) (by omega) (fun c80 => ?_) (fun c80 => ?_)
    · skip
      refine lv_iload_n hx hb dX3_addedByKind_87 rfl (lv_at hl 1 rfl) ?_
      refine lv_iload_n hx hb dX3_addedByKind_88 rfl (lv_at hl 2 rfl) ?_
      refine lv_iload_n hx hb dX3_addedByKind_89 rfl (lv_at hl 3 rfl) ?_
      refine rr_callR (va_runS (As := [.int (nI w), .int (nI a), .int (nI b)]) (rest := []) ⟨hx, hb, hml, hown, hts⟩ (c_X3_addedPlain l w a b (by first | assumption | omega) (by first | assumption | omega) (by first | assumption | omega) (by first | assumption | omega)) (va_cwS 3 hts gX3_addedByKind_X3_addedPlain rfl rfl rfl (by decide +kernel) ⟨Nat.le_of_ble_eq_true rfl, Nat.le_of_ble_eq_true rfl⟩) rr_preT rfl rfl hl.1 rfl (lv_room (Nat.le_of_ble_eq_true rfl)) dX3_addedByKind_90 ⟨Nat.zero_le _, Nat.zero_le _⟩) ?_
      exact rr_iret hx hb hr hlocks dX3_addedByKind_93 (congrArg nI (by unfold addK; (repeat' split) <;> omega))
    refine lv_iload_n hx hb dX3_addedByKind_83 rfl (lv_at hl 2 rfl) ?_
    refine lv_goto (tgt := 93) hx hb dX3_addedByKind_84 (by decide) ?_
    exact rr_iret hx hb hr hlocks dX3_addedByKind_93 (congrArg nI (by unfold addK; (repeat' split) <;> omega))
  refine lv_tableOut (tgt := 94) hx hb dX3_addedByKind_1 (sw_outN 1 4 (by omega) (by omega)) (by decide) ?_
  refine lv_iload_n hx hb dX3_addedByKind_94 rfl (lv_at hl 1 rfl) ?_
  refine lv_iload_n hx hb dX3_addedByKind_95 rfl (lv_at hl 2 rfl) ?_
  refine lv_iload_n hx hb dX3_addedByKind_96 rfl (lv_at hl 3 rfl) ?_
  refine rr_callR (va_runS (As := [.int (nI w), .int (nI a), .int (nI b)]) (rest := []) ⟨hx, hb, hml, hown, hts⟩ (c_X3_addedPlain l w a b (by first | assumption | omega) (by first | assumption | omega) (by first | assumption | omega) (by first | assumption | omega)) (va_cwS 3 hts gX3_addedByKind_X3_addedPlain rfl rfl rfl (by decide +kernel) ⟨Nat.le_of_ble_eq_true rfl, Nat.le_of_ble_eq_true rfl⟩) rr_preT rfl rfl hl.1 rfl (lv_room (Nat.le_of_ble_eq_true rfl)) dX3_addedByKind_97 ⟨Nat.zero_le _, Nat.zero_le _⟩) ?_
  exact rr_iret hx hb hr hlocks dX3_addedByKind_100 (congrArg nI (by unfold addK; (repeat' split) <;> omega))
set_option maxHeartbeats 4000000 in
set_option maxRecDepth 100000 in
theorem c_X5_addedBy (l : Launch) (kd w a b : Nat) (hkd : kd ≤ 4) (hw : 0 < w) (hwb : w ≤ 19) (ha : a < w) (hb2 : b < w) : Met l yX5_addedBy wsX5_addedBy ({ frames := 2, cells := 0, slots := 0, locals := 45 }) (va_Pc [.int (nI kd), .int (nI w), .int (nI a), .int (nI b)] (fun _ => True)) (QcRead (nI (addK kd w a b))) 0 0 (fun _ => False) := by
  refine Met.ofW (cc := cX5_addedBy) (maxL := 4) (ret := (some .int)) (by decide) rfl ?_
  intro p e s m args below meth c s₁ B hml hv
  obtain ⟨rfl, -⟩ := hv
  have hx := B.exec
  have hb := B.bytes
  have hr := B.returns
  have hts := atoms_spec (ws := wsX5_addedBy) B.pre
  have hown : s.vm.findClass RX5 = some m.cls := findClass_of_methodNamed B.named
  have hlocks := B.notSynchronized
  have hl := lv_entry ([.int (nI kd), .int (nI w), .int (nI a), .int (nI b)]) (n := 4) (Nat.le_of_ble_eq_true rfl)
  rw [lg_entry_eq]
  generalize (lg_sl ([.int (nI kd), .int (nI w), .int (nI a), .int (nI b)]) ++ List.replicate (4 - (lg_sl ([.int (nI kd), .int (nI w), .int (nI a), .int (nI b)])).length) Slot.unset).toArray = ls at hl ⊢
  have hl : lv_has ls 4 [(0, .int (nI kd)), (1, .int (nI w)), (2, .int (nI a)), (3, .int (nI b))] := hl
  refine lv_iload_n hx hb dX5_addedBy_0 rfl (lv_at hl 0 rfl) ?_
  by_cases w1_1 : kd = 1
  · refine rn_top w1_1 ?_
    refine lv_tableIn (off := 31) (tgt := 32) hx hb dX5_addedBy_1 (by decide) (by decide) (by decide) (by decide) ?_
    refine lv_iload_n hx hb dX5_addedBy_32 rfl (lv_at hl 1 rfl) ?_
    refine lv_iload_n hx hb dX5_addedBy_33 rfl (lv_at hl 2 rfl) ?_
    refine lv_iload_n hx hb dX5_addedBy_34 rfl (lv_at hl 3 rfl) ?_
    refine rr_callR (va_runS (As := [.int (nI w), .int (nI a), .int (nI b)]) (rest := []) ⟨hx, hb, hml, hown, hts⟩ (c_X5_losing l w a b (by first | assumption | omega) (by first | assumption | omega) (by first | assumption | omega) (by first | assumption | omega)) (va_cwS 3 hts gX5_addedBy_X5_losing rfl rfl rfl (by decide +kernel) ⟨Nat.le_of_ble_eq_true rfl, Nat.le_of_ble_eq_true rfl⟩) rr_preT rfl rfl hl.1 rfl (lv_room (Nat.le_of_ble_eq_true rfl)) dX5_addedBy_35 ⟨Nat.zero_le _, Nat.zero_le _⟩) ?_
    exact rr_iret hx hb hr hlocks dX5_addedBy_38 (congrArg nI (by unfold addK; (repeat' split) <;> omega))
  by_cases w1_2 : kd = 2
  · refine rn_top w1_2 ?_
    refine lv_tableIn (off := 38) (tgt := 39) hx hb dX5_addedBy_1 (by decide) (by decide) (by decide) (by decide) ?_
    refine lv_iload_n hx hb dX5_addedBy_39 rfl (lv_at hl 3 rfl) ?_
    refine lv_iconst (v := (nI 1)) hx hb dX5_addedBy_40 (by decide) ?_
    refine rn_icmp_ne (tgt := 48) hx hb dX5_addedBy_41 (by decide) (by omega) (by omega) (fun c41 => ?_) (fun c41 => ?_)
    · skip
      refine lv_iload_n hx hb dX5_addedBy_48 rfl (lv_at hl 1 rfl) ?_
      refine lv_iload_n hx hb dX5_addedBy_49 rfl (lv_at hl 2 rfl) ?_
      refine lv_iload_n hx hb dX5_addedBy_50 rfl (lv_at hl 3 rfl) ?_
      refine rr_callR (va_runS (As := [.int (nI w), .int (nI a), .int (nI b)]) (rest := []) ⟨hx, hb, hml, hown, hts⟩ (c_X5_plain l w a b (by first | assumption | omega) (by first | assumption | omega) (by first | assumption | omega) (by first | assumption | omega)) (va_cwS 3 hts gX5_addedBy_X5_plain rfl rfl rfl (by decide +kernel) ⟨Nat.le_of_ble_eq_true rfl, Nat.le_of_ble_eq_true rfl⟩) rr_preT rfl rfl hl.1 rfl (lv_room (Nat.le_of_ble_eq_true rfl)) dX5_addedBy_51 ⟨Nat.zero_le _, Nat.zero_le _⟩) ?_
      exact rr_iret hx hb hr hlocks dX5_addedBy_54 (congrArg nI (by unfold addK; (repeat' split) <;> omega))
    refine lv_iload_n hx hb dX5_addedBy_44 rfl (lv_at hl 2 rfl) ?_
    refine lv_goto (tgt := 54) hx hb dX5_addedBy_45 (by decide) ?_
    exact rr_iret hx hb hr hlocks dX5_addedBy_54 (congrArg nI (by unfold addK; (repeat' split) <;> omega))
  by_cases w1_3 : kd = 3
  · refine rn_top w1_3 ?_
    refine lv_tableIn (off := 54) (tgt := 55) hx hb dX5_addedBy_1 (by decide) (by decide) (by decide) (by decide) ?_
    refine lv_iload_n hx hb dX5_addedBy_55 rfl (lv_at hl 2 rfl) ?_
    refine lv_iload_n hx hb dX5_addedBy_56 rfl (lv_at hl 3 rfl) ?_
    refine rn_icmp_ne (tgt := 64) hx hb dX5_addedBy_57 (by decide) (by omega) (by omega) (fun c57 => ?_) (fun c57 => ?_)
    · skip
      refine lv_iload_n hx hb dX5_addedBy_64 rfl (lv_at hl 1 rfl) ?_
      refine lv_iload_n hx hb dX5_addedBy_65 rfl (lv_at hl 2 rfl) ?_
      refine lv_iload_n hx hb dX5_addedBy_66 rfl (lv_at hl 3 rfl) ?_
      refine rr_callR (va_runS (As := [.int (nI w), .int (nI a), .int (nI b)]) (rest := []) ⟨hx, hb, hml, hown, hts⟩ (c_X5_losing l w a b (by first | assumption | omega) (by first | assumption | omega) (by first | assumption | omega) (by first | assumption | omega)) (va_cwS 3 hts gX5_addedBy_X5_losing rfl rfl rfl (by decide +kernel) ⟨Nat.le_of_ble_eq_true rfl, Nat.le_of_ble_eq_true rfl⟩) rr_preT rfl rfl hl.1 rfl (lv_room (Nat.le_of_ble_eq_true rfl)) dX5_addedBy_67 ⟨Nat.zero_le _, Nat.zero_le _⟩) ?_
      exact rr_iret hx hb hr hlocks dX5_addedBy_70 (congrArg nI (by unfold addK; (repeat' split) <;> omega))
    refine lv_iconst (v := (nI 0)) hx hb dX5_addedBy_60 (by decide) ?_
    refine lv_goto (tgt := 70) hx hb dX5_addedBy_61 (by decide) ?_
    exact rr_iret hx hb hr hlocks dX5_addedBy_70 (congrArg nI (by unfold addK; (repeat' split) <;> omega))
  by_cases w1_4 : kd = 4
  · refine rn_top w1_4 ?_
    refine lv_tableIn (off := 70) (tgt := 71) hx hb dX5_addedBy_1 (by decide) (by decide) (by decide) (by decide) ?_
    refine lv_iload_n hx hb dX5_addedBy_71 rfl (lv_at hl 3 rfl) ?_
    refine lv_iconst (v := (nI 1)) hx hb dX5_addedBy_72 (by decide) ?_
    refine rn_icmp_eq (tgt := 83) hx hb dX5_addedBy_73 (by decide) (by omega) (by omega) (fun c73 => ?_) (fun c73 => ?_)
    · skip
      refine lv_iload_n hx hb dX5_addedBy_83 rfl (lv_at hl 2 rfl) ?_
      refine lv_goto (tgt := 93) hx hb dX5_addedBy_84 (by decide) ?_
      exact rr_iret hx hb hr hlocks dX5_addedBy_93 (congrArg nI (by unfold addK; (repeat' split) <;> omega))
    refine lv_iconst (v := (nI 2)) hx hb dX5_addedBy_76 (by decide) ?_
    refine lv_iload_n hx hb dX5_addedBy_77 rfl (lv_at hl 3 rfl) ?_
    refine rn_imul hx hb dX5_addedBy_78 ?_
    refine lv_iload_n hx hb dX5_addedBy_79 rfl (lv_at hl 1 rfl) ?_
    refine rn_icmp_le (tgt := 87) hx hb dX5_addedBy_80 (by decide) (by omega) (by omega) (fun c80 => ?_) (fun c80 => ?_)
    · skip
      refine lv_iload_n hx hb dX5_addedBy_87 rfl (lv_at hl 1 rfl) ?_
      refine lv_iload_n hx hb dX5_addedBy_88 rfl (lv_at hl 2 rfl) ?_
      refine lv_iload_n hx hb dX5_addedBy_89 rfl (lv_at hl 3 rfl) ?_
      refine rr_callR (va_runS (As := [.int (nI w), .int (nI a), .int (nI b)]) (rest := []) ⟨hx, hb, hml, hown, hts⟩ (c_X5_plain l w a b (by first | assumption | omega) (by first | assumption | omega) (by first | assumption | omega) (by first | assumption | omega)) (va_cwS 3 hts gX5_addedBy_X5_plain rfl rfl rfl (by decide +kernel) ⟨Nat.le_of_ble_eq_true rfl, Nat.le_of_ble_eq_true rfl⟩) rr_preT rfl rfl hl.1 rfl (lv_room (Nat.le_of_ble_eq_true rfl)) dX5_addedBy_90 ⟨Nat.zero_le _, Nat.zero_le _⟩) ?_
      exact rr_iret hx hb hr hlocks dX5_addedBy_93 (congrArg nI (by unfold addK; (repeat' split) <;> omega))
    refine lv_iload_n hx hb dX5_addedBy_83 rfl (lv_at hl 2 rfl) ?_
    refine lv_goto (tgt := 93) hx hb dX5_addedBy_84 (by decide) ?_
    exact rr_iret hx hb hr hlocks dX5_addedBy_93 (congrArg nI (by unfold addK; (repeat' split) <;> omega))
  refine lv_tableOut (tgt := 94) hx hb dX5_addedBy_1 (sw_outN 1 4 (by omega) (by omega)) (by decide) ?_
  refine lv_iload_n hx hb dX5_addedBy_94 rfl (lv_at hl 1 rfl) ?_
  refine lv_iload_n hx hb dX5_addedBy_95 rfl (lv_at hl 2 rfl) ?_
  refine lv_iload_n hx hb dX5_addedBy_96 rfl (lv_at hl 3 rfl) ?_
  refine rr_callR (va_runS (As := [.int (nI w), .int (nI a), .int (nI b)]) (rest := []) ⟨hx, hb, hml, hown, hts⟩ (c_X5_plain l w a b (by first | assumption | omega) (by first | assumption | omega) (by first | assumption | omega) (by first | assumption | omega)) (va_cwS 3 hts gX5_addedBy_X5_plain rfl rfl rfl (by decide +kernel) ⟨Nat.le_of_ble_eq_true rfl, Nat.le_of_ble_eq_true rfl⟩) rr_preT rfl rfl hl.1 rfl (lv_room (Nat.le_of_ble_eq_true rfl)) dX5_addedBy_97 ⟨Nat.zero_le _, Nat.zero_le _⟩) ?_
  exact rr_iret hx hb hr hlocks dX5_addedBy_100 (congrArg nI (by unfold addK; (repeat' split) <;> omega))
set_option maxHeartbeats 4000000 in
set_option maxRecDepth 100000 in
theorem c_X4_isBelow (l : Launch) (x : Int32) (n : Nat) (hn : n < 2 ^ 31) : Met l yX4_isBelow wsX4_isBelow ({ frames := 0, cells := 0, slots := 0, locals := 0 }) (va_Pc [.int x, .int (nI n)] (fun _ => True)) (QcRead (bi (inb x n))) 0 0 (fun _ => False) := by
  refine Met.ofW (cc := cX4_isBelow) (maxL := 2) (ret := (some .boolean)) (by decide) rfl ?_
  intro p e s m args below meth c s₁ B hml hv
  obtain ⟨rfl, -⟩ := hv
  have hx := B.exec
  have hb := B.bytes
  have hr := B.returns
  have hts := atoms_spec (ws := wsX4_isBelow) B.pre
  have hown : s.vm.findClass RX4 = some m.cls := findClass_of_methodNamed B.named
  have hlocks := B.notSynchronized
  have hl := lv_entry ([.int x, .int (nI n)]) (n := 2) (Nat.le_of_ble_eq_true rfl)
  rw [lg_entry_eq]
  generalize (lg_sl ([.int x, .int (nI n)]) ++ List.replicate (2 - (lg_sl ([.int x, .int (nI n)])).length) Slot.unset).toArray = ls at hl ⊢
  have hl : lv_has ls 2 [(0, .int x), (1, .int (nI n))] := hl
  refine lv_iload_n hx hb dX4_isBelow_0 rfl (lv_at hl 0 rfl) ?_
  refine lv_if_lt (tgt := 13) hx hb dX4_isBelow_1 (by decide) (fun c1 => ?_) (fun c1 => ?_)
  · skip
    refine lv_iconst (v := (nI 0)) hx hb dX4_isBelow_13 (by decide) ?_
    refine rr_top (y := bi false) rfl ?_
    exact rr_zret hx hb hr hlocks dX4_isBelow_14 (by first | (rw [inb_cmp hn c1 c6]; done) | (rw [inb_big hn c6]; done) | rw [inb_neg c1])
  refine lv_iload_n hx hb dX4_isBelow_4 rfl (lv_at hl 0 rfl) ?_
  refine lv_iload_n hx hb dX4_isBelow_5 rfl (lv_at hl 1 rfl) ?_
  refine lv_icmp_ge (tgt := 13) hx hb dX4_isBelow_6 (by decide) (fun c6 => ?_) (fun c6 => ?_)
  · skip
    refine lv_iconst (v := (nI 0)) hx hb dX4_isBelow_13 (by decide) ?_
    refine rr_top (y := bi false) rfl ?_
    exact rr_zret hx hb hr hlocks dX4_isBelow_14 (by first | (rw [inb_cmp hn c1 c6]; done) | (rw [inb_big hn c6]; done) | rw [inb_neg c1])
  refine lv_iconst (v := (nI 1)) hx hb dX4_isBelow_9 (by decide) ?_
  refine lv_goto (tgt := 14) hx hb dX4_isBelow_10 (by decide) ?_
  refine rr_top (y := bi true) rfl ?_
  exact rr_zret hx hb hr hlocks dX4_isBelow_14 (by first | (rw [inb_cmp hn c1 c6]; done) | (rw [inb_big hn c6]; done) | rw [inb_neg c1])
set_option maxHeartbeats 4000000 in
set_option maxRecDepth 100000 in
theorem c_X4_isRegister (l : Launch) (x : Int32) : Met l yX4_isRegister wsX4_isRegister ({ frames := 1, cells := 0, slots := 0, locals := 21 }) (va_Pc [.int x] (fun _ => True)) (QcRead (bi (inb x 4))) 0 0 (fun _ => False) := by
  refine Met.ofW (cc := cX4_isRegister) (maxL := 1) (ret := (some .boolean)) (by decide) rfl ?_
  intro p e s m args below meth c s₁ B hml hv
  obtain ⟨rfl, -⟩ := hv
  have hx := B.exec
  have hb := B.bytes
  have hr := B.returns
  have hts := atoms_spec (ws := wsX4_isRegister) B.pre
  have hown : s.vm.findClass RX4 = some m.cls := findClass_of_methodNamed B.named
  have hlocks := B.notSynchronized
  have hl := lv_entry ([.int x]) (n := 1) (Nat.le_of_ble_eq_true rfl)
  rw [lg_entry_eq]
  generalize (lg_sl ([.int x]) ++ List.replicate (1 - (lg_sl ([.int x])).length) Slot.unset).toArray = ls at hl ⊢
  have hl : lv_has ls 1 [(0, .int x)] := hl
  refine lv_iload_n hx hb dX4_isRegister_0 rfl (lv_at hl 0 rfl) ?_
  refine lv_iconst (v := (nI 4)) hx hb dX4_isRegister_1 (by decide) ?_
  refine rr_callR (va_runS (As := [.int x, .int (nI 4)]) (rest := []) ⟨hx, hb, hml, hown, hts⟩ (c_X4_isBelow l x 4 (by first | assumption | omega)) (va_cwS 2 hts gX4_isRegister_X4_isBelow rfl rfl rfl (by decide +kernel) ⟨Nat.le_of_ble_eq_true rfl, Nat.le_of_ble_eq_true rfl⟩) rr_preT rfl rfl hl.1 rfl (lv_room (Nat.le_of_ble_eq_true rfl)) dX4_isRegister_2 ⟨Nat.zero_le _, Nat.zero_le _⟩) ?_
  exact rr_zret hx hb hr hlocks dX4_isRegister_5 (rfl)
set_option maxHeartbeats 4000000 in
set_option maxRecDepth 100000 in
theorem c_X4_isSheet (l : Launch) (x : Int32) : Met l yX4_isSheet wsX4_isSheet ({ frames := 1, cells := 0, slots := 0, locals := 21 }) (va_Pc [.int x] (fun _ => True)) (QcRead (bi (inb x 4))) 0 0 (fun _ => False) := by
  refine Met.ofW (cc := cX4_isSheet) (maxL := 1) (ret := (some .boolean)) (by decide) rfl ?_
  intro p e s m args below meth c s₁ B hml hv
  obtain ⟨rfl, -⟩ := hv
  have hx := B.exec
  have hb := B.bytes
  have hr := B.returns
  have hts := atoms_spec (ws := wsX4_isSheet) B.pre
  have hown : s.vm.findClass RX4 = some m.cls := findClass_of_methodNamed B.named
  have hlocks := B.notSynchronized
  have hl := lv_entry ([.int x]) (n := 1) (Nat.le_of_ble_eq_true rfl)
  rw [lg_entry_eq]
  generalize (lg_sl ([.int x]) ++ List.replicate (1 - (lg_sl ([.int x])).length) Slot.unset).toArray = ls at hl ⊢
  have hl : lv_has ls 1 [(0, .int x)] := hl
  refine lv_iload_n hx hb dX4_isSheet_0 rfl (lv_at hl 0 rfl) ?_
  refine lv_iconst (v := (nI 4)) hx hb dX4_isSheet_1 (by decide) ?_
  refine rr_callR (va_runS (As := [.int x, .int (nI 4)]) (rest := []) ⟨hx, hb, hml, hown, hts⟩ (c_X4_isBelow l x 4 (by first | assumption | omega)) (va_cwS 2 hts gX4_isSheet_X4_isBelow rfl rfl rfl (by decide +kernel) ⟨Nat.le_of_ble_eq_true rfl, Nat.le_of_ble_eq_true rfl⟩) rr_preT rfl rfl hl.1 rfl (lv_room (Nat.le_of_ble_eq_true rfl)) dX4_isSheet_2 ⟨Nat.zero_le _, Nat.zero_le _⟩) ?_
  exact rr_zret hx hb hr hlocks dX4_isSheet_5 (rfl)
set_option maxHeartbeats 4000000 in
set_option maxRecDepth 100000 in
theorem c_X4_isLane (l : Launch) (x : Int32) : Met l yX4_isLane wsX4_isLane ({ frames := 1, cells := 0, slots := 0, locals := 21 }) (va_Pc [.int x] (fun _ => True)) (QcRead (bi (inb x 4))) 0 0 (fun _ => False) := by
  refine Met.ofW (cc := cX4_isLane) (maxL := 1) (ret := (some .boolean)) (by decide) rfl ?_
  intro p e s m args below meth c s₁ B hml hv
  obtain ⟨rfl, -⟩ := hv
  have hx := B.exec
  have hb := B.bytes
  have hr := B.returns
  have hts := atoms_spec (ws := wsX4_isLane) B.pre
  have hown : s.vm.findClass RX4 = some m.cls := findClass_of_methodNamed B.named
  have hlocks := B.notSynchronized
  have hl := lv_entry ([.int x]) (n := 1) (Nat.le_of_ble_eq_true rfl)
  rw [lg_entry_eq]
  generalize (lg_sl ([.int x]) ++ List.replicate (1 - (lg_sl ([.int x])).length) Slot.unset).toArray = ls at hl ⊢
  have hl : lv_has ls 1 [(0, .int x)] := hl
  refine lv_iload_n hx hb dX4_isLane_0 rfl (lv_at hl 0 rfl) ?_
  refine lv_iconst (v := (nI 4)) hx hb dX4_isLane_1 (by decide) ?_
  refine rr_callR (va_runS (As := [.int x, .int (nI 4)]) (rest := []) ⟨hx, hb, hml, hown, hts⟩ (c_X4_isBelow l x 4 (by first | assumption | omega)) (va_cwS 2 hts gX4_isLane_X4_isBelow rfl rfl rfl (by decide +kernel) ⟨Nat.le_of_ble_eq_true rfl, Nat.le_of_ble_eq_true rfl⟩) rr_preT rfl rfl hl.1 rfl (lv_room (Nat.le_of_ble_eq_true rfl)) dX4_isLane_2 ⟨Nat.zero_le _, Nat.zero_le _⟩) ?_
  exact rr_zret hx hb hr hlocks dX4_isLane_5 (rfl)
set_option maxHeartbeats 4000000 in
set_option maxRecDepth 100000 in
theorem c_X4_commonPart (l : Launch) (a b : Nat) (ha : a < 2 ^ 31) (hb2 : b < 2 ^ 31) : Met l yX4_commonPart wsX4_commonPart ({ frames := 0, cells := 0, slots := 0, locals := 0 }) (va_Pc [.int (nI a), .int (nI b)] (fun _ => True)) (QcRead (nI (Nat.gcd a b))) 0 0 (fun _ => False) := by
  refine Met.ofW (cc := cX4_commonPart) (maxL := 6) (ret := (some .int)) (by decide) rfl ?_
  intro p e s m args below meth c s₁ B hml hv
  obtain ⟨rfl, -⟩ := hv
  have hx := B.exec
  have hb := B.bytes
  have hr := B.returns
  have hts := atoms_spec (ws := wsX4_commonPart) B.pre
  have hown : s.vm.findClass RX4 = some m.cls := findClass_of_methodNamed B.named
  have hlocks := B.notSynchronized
  have hl := lv_entry ([.int (nI a), .int (nI b)]) (n := 6) (Nat.le_of_ble_eq_true rfl)
  rw [lg_entry_eq]
  generalize (lg_sl ([.int (nI a), .int (nI b)]) ++ List.replicate (6 - (lg_sl ([.int (nI a), .int (nI b)])).length) Slot.unset).toArray = ls at hl ⊢
  have hl : lv_has ls 6 [(0, .int (nI a)), (1, .int (nI b))] := hl
  refine lv_iload_n hx hb dX4_commonPart_0 rfl (lv_at hl 0 rfl) ?_
  refine lv_istore_n (lv' := [(2, .int (nI a)), (0, .int (nI a)), (1, .int (nI b))]) hx hb dX4_commonPart_1 rfl hl (by decide) rfl (fun ls hl => ?_)
  refine lv_iload_n hx hb dX4_commonPart_2 rfl (lv_at hl 2 rfl) ?_
  refine lv_istore_n (lv' := [(3, .int (nI b)), (2, .int (nI a)), (0, .int (nI a)), (1, .int (nI b))]) hx hb dX4_commonPart_3 rfl hl (by decide) rfl (fun ls hl => ?_)
  refine lv_iconst (v := (nI 0)) hx hb dX4_commonPart_4 (by decide) ?_
  refine lv_istore (lv' := [(4, .int (nI 0)), (3, .int (nI b)), (2, .int (nI a)), (0, .int (nI a)), (1, .int (nI b))]) hx hb dX4_commonPart_5 hl (by decide) rfl (fun ls hl => ?_)
  refine rl3 (A1 := Nat) (A2 := Nat) (A3 := Nat) (fun ls => W p l e _ s m _ below meth c s.heap [] 0 0 _ (F0 m 7 ls [])) (fun x y i ls => x < 2 ^ 31 ∧ y < 2 ^ 31 ∧ Nat.gcd x y = Nat.gcd a b ∧ eucI i x y ∧ i ≤ 64 ∧ lv_has ls 6 [(4, .int (nI i)), (3, .int (nI y)), (2, .int (nI x)), (0, .int (nI a)), (1, .int (nI b))]) (fun x y i => 64 - i) ?_ a b 0 ls ⟨by omega, by omega, rfl, Or.inl rfl, by omega, lv_sub hl [0, 1, 2, 3, 4] rfl⟩
  rintro x y i ls ⟨hxb, hyb, hg, hE, hi, hl⟩ ih7
  refine lv_iload hx hb dX4_commonPart_7 (lv_at hl 0 rfl) ?_
  refine lv_bipush (v := (nI 64)) hx hb dX4_commonPart_9 (by decide) ?_
  refine rn_icmp_ge (tgt := 34) hx hb dX4_commonPart_11 (by decide) (by omega) (by omega) (fun c11 => ?_) (fun c11 => ?_)
  · skip
    have hy0 : y = 0 := by first | exact c15 | (have e64 : i = 64 := by omega); rw [e64] at hE; exact eucI_end hE
    refine lv_iload_n hx hb dX4_commonPart_34 rfl (lv_at hl 2 rfl) ?_
    exact rr_iret hx hb hr hlocks dX4_commonPart_35 (by rw [← hg, hy0, Nat.gcd_zero_right])
  refine lv_iload_n hx hb dX4_commonPart_14 rfl (lv_at hl 1 rfl) ?_
  refine rn_if_eq (tgt := 34) hx hb dX4_commonPart_15 (by decide) (by omega) (fun c15 => ?_) (fun c15 => ?_)
  · skip
    have hy0 : y = 0 := by first | exact c15 | (have e64 : i = 64 := by omega); rw [e64] at hE; exact eucI_end hE
    refine lv_iload_n hx hb dX4_commonPart_34 rfl (lv_at hl 2 rfl) ?_
    exact rr_iret hx hb hr hlocks dX4_commonPart_35 (by rw [← hg, hy0, Nat.gcd_zero_right])
  refine lv_iload_n hx hb dX4_commonPart_18 rfl (lv_at hl 2 rfl) ?_
  refine lv_iload_n hx hb dX4_commonPart_19 rfl (lv_at hl 1 rfl) ?_
  refine rn_irem hx hb dX4_commonPart_20 hxb (Nat.pos_of_ne_zero c15) hyb ?_
  refine lv_istore (lv' := [(5, .int (nI (x % y))), (4, .int (nI i)), (3, .int (nI y)), (2, .int (nI x)), (0, .int (nI a)), (1, .int (nI b))]) hx hb dX4_commonPart_21 hl (by decide) rfl (fun ls hl => ?_)
  refine lv_iload_n hx hb dX4_commonPart_23 rfl (lv_at hl 2 rfl) ?_
  refine lv_istore_n (lv' := [(2, .int (nI y)), (5, .int (nI (x % y))), (4, .int (nI i)), (3, .int (nI y)), (0, .int (nI a)), (1, .int (nI b))]) hx hb dX4_commonPart_24 rfl hl (by decide) rfl (fun ls hl => ?_)
  refine lv_iload hx hb dX4_commonPart_25 (lv_at hl 1 rfl) ?_
  refine lv_istore_n (lv' := [(3, .int (nI (x % y))), (2, .int (nI y)), (5, .int (nI (x % y))), (4, .int (nI i)), (0, .int (nI a)), (1, .int (nI b))]) hx hb dX4_commonPart_27 rfl hl (by decide) rfl (fun ls hl => ?_)
  refine lv_iinc (v := (nI (i + 1))) (lv' := [(4, .int (nI (i + 1))), (3, .int (nI (x % y))), (2, .int (nI y)), (5, .int (nI (x % y))), (0, .int (nI a)), (1, .int (nI b))]) hx hb dX4_commonPart_28 hl (k := 3) rfl (rn_inc i 1) (by decide) rfl (fun ls hl => ?_)
  refine lv_goto (tgt := 7) hx hb dX4_commonPart_31 (by decide) ?_
  have hml := Nat.mod_lt x (Nat.pos_of_ne_zero c15)
  exact ih7 y (x % y) (i + 1) ls ⟨by omega, Nat.lt_trans hml hyb, (gcd_step x y).trans hg, eucI_step hE hxb hyb (Nat.pos_of_ne_zero c15), by omega, lv_sub hl [0, 1, 2, 4, 5] rfl⟩ (by omega)
set_option maxHeartbeats 4000000 in
set_option maxRecDepth 100000 in
theorem c_X5_divisor (l : Launch) (a b : Nat) (ha : a < 2 ^ 31) (hb2 : b < 2 ^ 31) : Met l yX5_divisor wsX5_divisor ({ frames := 0, cells := 0, slots := 0, locals := 0 }) (va_Pc [.int (nI a), .int (nI b)] (fun _ => True)) (QcRead (nI (Nat.gcd a b))) 0 0 (fun _ => False) := by
  refine Met.ofW (cc := cX5_divisor) (maxL := 5) (ret := (some .int)) (by decide) rfl ?_
  intro p e s m args below meth c s₁ B hml hv
  obtain ⟨rfl, -⟩ := hv
  have hx := B.exec
  have hb := B.bytes
  have hr := B.returns
  have hts := atoms_spec (ws := wsX5_divisor) B.pre
  have hown : s.vm.findClass RX5 = some m.cls := findClass_of_methodNamed B.named
  have hlocks := B.notSynchronized
  have hl := lv_entry ([.int (nI a), .int (nI b)]) (n := 5) (Nat.le_of_ble_eq_true rfl)
  rw [lg_entry_eq]
  generalize (lg_sl ([.int (nI a), .int (nI b)]) ++ List.replicate (5 - (lg_sl ([.int (nI a), .int (nI b)])).length) Slot.unset).toArray = ls at hl ⊢
  have hl : lv_has ls 5 [(0, .int (nI a)), (1, .int (nI b))] := hl
  refine lv_iload_n hx hb dX5_divisor_0 rfl (lv_at hl 0 rfl) ?_
  refine lv_istore_n (lv' := [(2, .int (nI a)), (0, .int (nI a)), (1, .int (nI b))]) hx hb dX5_divisor_1 rfl hl (by decide) rfl (fun ls hl => ?_)
  refine lv_iload_n hx hb dX5_divisor_2 rfl (lv_at hl 2 rfl) ?_
  refine lv_istore_n (lv' := [(3, .int (nI b)), (2, .int (nI a)), (0, .int (nI a)), (1, .int (nI b))]) hx hb dX5_divisor_3 rfl hl (by decide) rfl (fun ls hl => ?_)
  refine rl2 (A1 := Nat) (A2 := Nat) (fun ls => W p l e _ s m _ below meth c s.heap [] 0 0 _ (F0 m 4 ls [])) (fun x y ls => x < 2 ^ 31 ∧ y < 2 ^ 31 ∧ Nat.gcd x y = Nat.gcd a b ∧ lv_has ls 5 [(3, .int (nI y)), (2, .int (nI x)), (0, .int (nI a)), (1, .int (nI b))]) (fun x y => y) ?_ a b ls ⟨by omega, by omega, rfl, lv_sub hl [0, 1, 2, 3] rfl⟩
  rintro x y ls ⟨hxb, hyb, hg, hl⟩ ih4
  refine lv_iload_n hx hb dX5_divisor_4 rfl (lv_at hl 0 rfl) ?_
  refine rn_if_eq (tgt := 21) hx hb dX5_divisor_5 (by decide) (by omega) (fun c5 => ?_) (fun c5 => ?_)
  · skip
    refine lv_iload_n hx hb dX5_divisor_21 rfl (lv_at hl 1 rfl) ?_
    exact rr_iret hx hb hr hlocks dX5_divisor_22 (by rw [← hg, c5, Nat.gcd_zero_right])
  refine lv_iload_n hx hb dX5_divisor_8 rfl (lv_at hl 1 rfl) ?_
  refine lv_iload_n hx hb dX5_divisor_9 rfl (lv_at hl 0 rfl) ?_
  refine rn_irem hx hb dX5_divisor_10 hxb (Nat.pos_of_ne_zero c5) hyb ?_
  refine lv_istore (lv' := [(4, .int (nI (x % y))), (3, .int (nI y)), (2, .int (nI x)), (0, .int (nI a)), (1, .int (nI b))]) hx hb dX5_divisor_11 hl (by decide) rfl (fun ls hl => ?_)
  refine lv_iload_n hx hb dX5_divisor_13 rfl (lv_at hl 1 rfl) ?_
  refine lv_istore_n (lv' := [(2, .int (nI y)), (4, .int (nI (x % y))), (3, .int (nI y)), (0, .int (nI a)), (1, .int (nI b))]) hx hb dX5_divisor_14 rfl hl (by decide) rfl (fun ls hl => ?_)
  refine lv_iload hx hb dX5_divisor_15 (lv_at hl 1 rfl) ?_
  refine lv_istore_n (lv' := [(3, .int (nI (x % y))), (2, .int (nI y)), (4, .int (nI (x % y))), (0, .int (nI a)), (1, .int (nI b))]) hx hb dX5_divisor_17 rfl hl (by decide) rfl (fun ls hl => ?_)
  refine lv_goto (tgt := 4) hx hb dX5_divisor_18 (by decide) ?_
  have hml := Nat.mod_lt x (Nat.pos_of_ne_zero c5)
  exact ih4 y (x % y) ls ⟨by omega, Nat.lt_trans hml hyb, (gcd_step x y).trans hg, lv_sub hl [0, 1, 3, 4] rfl⟩ (hml)
set_option maxHeartbeats 4000000 in
set_option maxRecDepth 100000 in
theorem c_X4_power (l : Launch) (a k : Nat) (hk : k ≤ 6) : Met l yX4_power wsX4_power ({ frames := 0, cells := 0, slots := 0, locals := 0 }) (va_Pc [.int (nI a), .int (nI k)] (fun _ => True)) (QcRead (nI (a ^ k))) 0 0 (fun _ => False) := by
  refine Met.ofW (cc := cX4_power) (maxL := 4) (ret := (some .int)) (by decide) rfl ?_
  intro p e s m args below meth c s₁ B hml hv
  obtain ⟨rfl, -⟩ := hv
  have hx := B.exec
  have hb := B.bytes
  have hr := B.returns
  have hts := atoms_spec (ws := wsX4_power) B.pre
  have hown : s.vm.findClass RX4 = some m.cls := findClass_of_methodNamed B.named
  have hlocks := B.notSynchronized
  have hl := lv_entry ([.int (nI a), .int (nI k)]) (n := 4) (Nat.le_of_ble_eq_true rfl)
  rw [lg_entry_eq]
  generalize (lg_sl ([.int (nI a), .int (nI k)]) ++ List.replicate (4 - (lg_sl ([.int (nI a), .int (nI k)])).length) Slot.unset).toArray = ls at hl ⊢
  have hl : lv_has ls 4 [(0, .int (nI a)), (1, .int (nI k))] := hl
  refine lv_iconst (v := (nI 1)) hx hb dX4_power_0 (by decide) ?_
  refine lv_istore_n (lv' := [(2, .int (nI 1)), (0, .int (nI a)), (1, .int (nI k))]) hx hb dX4_power_1 rfl hl (by decide) rfl (fun ls hl => ?_)
  refine lv_iconst (v := (nI 0)) hx hb dX4_power_2 (by decide) ?_
  refine lv_istore_n (lv' := [(3, .int (nI 0)), (2, .int (nI 1)), (0, .int (nI a)), (1, .int (nI k))]) hx hb dX4_power_3 rfl hl (by decide) rfl (fun ls hl => ?_)
  refine rl1 (A1 := Nat) (fun ls => W p l e _ s m _ below meth c s.heap [] 0 0 _ (F0 m 4 ls [])) (fun i ls => i ≤ k ∧ lv_has ls 4 [(3, .int (nI i)), (2, .int (nI (a ^ i))), (0, .int (nI a)), (1, .int (nI k))]) (fun i => k - i) ?_ 0 ls ⟨by omega, lv_sub hl [0, 1, 2, 3] rfl⟩
  rintro i ls ⟨hi, hl⟩ ih4
  refine lv_iload_n hx hb dX4_power_4 rfl (lv_at hl 0 rfl) ?_
  refine lv_iload_n hx hb dX4_power_5 rfl (lv_at hl 3 rfl) ?_
  refine rn_icmp_ge (tgt := 19) hx hb dX4_power_6 (by decide) (by omega) (by omega) (fun c6 => ?_) (fun c6 => ?_)
  · skip
    refine lv_iload_n hx hb dX4_power_19 rfl (lv_at hl 1 rfl) ?_
    exact rr_iret hx hb hr hlocks dX4_power_20 (by rw [Nat.le_antisymm hi c6])
  refine lv_iload_n hx hb dX4_power_9 rfl (lv_at hl 1 rfl) ?_
  refine lv_iload_n hx hb dX4_power_10 rfl (lv_at hl 2 rfl) ?_
  refine rn_imul hx hb dX4_power_11 ?_
  refine lv_istore_n (lv' := [(2, .int (nI ((a ^ i) * a))), (3, .int (nI i)), (0, .int (nI a)), (1, .int (nI k))]) hx hb dX4_power_12 rfl hl (by decide) rfl (fun ls hl => ?_)
  refine lv_iinc (v := (nI (i + 1))) (lv' := [(3, .int (nI (i + 1))), (2, .int (nI ((a ^ i) * a))), (0, .int (nI a)), (1, .int (nI k))]) hx hb dX4_power_13 hl (k := 1) rfl (rn_inc i 1) (by decide) rfl (fun ls hl => ?_)
  refine lv_goto (tgt := 4) hx hb dX4_power_16 (by decide) ?_
  exact ih4 (i + 1) ls ⟨by omega, lv_sub hl [0, 1, 2, 3] rfl⟩ (by omega)
set_option maxHeartbeats 4000000 in
set_option maxRecDepth 100000 in
theorem c_X3_isIn (l : Launch) (x k : Nat) (hx2 : x < 64) (hk : k < 6) : Met l yX3_isIn wsX3_isIn ({ frames := 0, cells := 0, slots := 0, locals := 0 }) (va_Pc [.int (nI x), .int (nI k)] (fun _ => True)) (QcRead (bi (hasB x k))) 0 0 (fun _ => False) := by
  refine Met.ofW (cc := cX3_isIn) (maxL := 2) (ret := (some .boolean)) (by decide) rfl ?_
  intro p e s m args below meth c s₁ B hml hv
  obtain ⟨rfl, -⟩ := hv
  have hx := B.exec
  have hb := B.bytes
  have hr := B.returns
  have hts := atoms_spec (ws := wsX3_isIn) B.pre
  have hown : s.vm.findClass RX3 = some m.cls := findClass_of_methodNamed B.named
  have hlocks := B.notSynchronized
  have hl := lv_entry ([.int (nI x), .int (nI k)]) (n := 2) (Nat.le_of_ble_eq_true rfl)
  rw [lg_entry_eq]
  generalize (lg_sl ([.int (nI x), .int (nI k)]) ++ List.replicate (2 - (lg_sl ([.int (nI x), .int (nI k)])).length) Slot.unset).toArray = ls at hl ⊢
  have hl : lv_has ls 2 [(0, .int (nI x)), (1, .int (nI k))] := hl
  refine lv_iload_n hx hb dX3_isIn_0 rfl (lv_at hl 0 rfl) ?_
  refine lv_iload_n hx hb dX3_isIn_1 rfl (lv_at hl 1 rfl) ?_
  refine lv_ishr hx hb dX3_isIn_2 ?_
  refine lv_iconst (v := (nI 1)) hx hb dX3_isIn_3 (by decide) ?_
  refine lv_iand hx hb dX3_isIn_4 ?_
  refine rr_top (y := (nI (x / 2 ^ k % 2))) (bit_eq (by omega) (by omega)) ?_
  have hlt := Nat.mod_lt (x / 2 ^ k) (show 0 < 2 by omega)
  refine lv_iconst (v := (nI 1)) hx hb dX3_isIn_5 (by decide) ?_
  refine rn_icmp_ne (tgt := 13) hx hb dX3_isIn_6 (by decide) (by omega) (by omega) (fun c6 => ?_) (fun c6 => ?_)
  · skip
    refine lv_iconst (v := (nI 0)) hx hb dX3_isIn_13 (by decide) ?_
    refine rr_top (y := bi false) rfl ?_
    exact rr_zret hx hb hr hlocks dX3_isIn_14 (by unfold hasB; first | exact (decide_eq_true c6).symm | exact (decide_eq_false c6).symm)
  refine lv_iconst (v := (nI 1)) hx hb dX3_isIn_9 (by decide) ?_
  refine lv_goto (tgt := 14) hx hb dX3_isIn_10 (by decide) ?_
  refine rr_top (y := bi true) rfl ?_
  exact rr_zret hx hb hr hlocks dX3_isIn_14 (by unfold hasB; first | exact (decide_eq_true c6).symm | exact (decide_eq_false c6).symm)
set_option maxHeartbeats 4000000 in
set_option maxRecDepth 100000 in
theorem c_X5_has (l : Launch) (x k : Nat) (hx2 : x < 64) (hk : k < 6) : Met l yX5_has wsX5_has ({ frames := 0, cells := 0, slots := 0, locals := 0 }) (va_Pc [.int (nI x), .int (nI k)] (fun _ => True)) (QcRead (bi (hasB x k))) 0 0 (fun _ => False) := by
  refine Met.ofW (cc := cX5_has) (maxL := 2) (ret := (some .boolean)) (by decide) rfl ?_
  intro p e s m args below meth c s₁ B hml hv
  obtain ⟨rfl, -⟩ := hv
  have hx := B.exec
  have hb := B.bytes
  have hr := B.returns
  have hts := atoms_spec (ws := wsX5_has) B.pre
  have hown : s.vm.findClass RX5 = some m.cls := findClass_of_methodNamed B.named
  have hlocks := B.notSynchronized
  have hl := lv_entry ([.int (nI x), .int (nI k)]) (n := 2) (Nat.le_of_ble_eq_true rfl)
  rw [lg_entry_eq]
  generalize (lg_sl ([.int (nI x), .int (nI k)]) ++ List.replicate (2 - (lg_sl ([.int (nI x), .int (nI k)])).length) Slot.unset).toArray = ls at hl ⊢
  have hl : lv_has ls 2 [(0, .int (nI x)), (1, .int (nI k))] := hl
  refine lv_iload_n hx hb dX5_has_0 rfl (lv_at hl 0 rfl) ?_
  refine lv_iload_n hx hb dX5_has_1 rfl (lv_at hl 1 rfl) ?_
  refine lv_ishr hx hb dX5_has_2 ?_
  refine lv_iconst (v := (nI 1)) hx hb dX5_has_3 (by decide) ?_
  refine lv_iand hx hb dX5_has_4 ?_
  refine rr_top (y := (nI (x / 2 ^ k % 2))) (bit_eq (by omega) (by omega)) ?_
  have hlt := Nat.mod_lt (x / 2 ^ k) (show 0 < 2 by omega)
  refine lv_iconst (v := (nI 1)) hx hb dX5_has_5 (by decide) ?_
  refine rn_icmp_ne (tgt := 13) hx hb dX5_has_6 (by decide) (by omega) (by omega) (fun c6 => ?_) (fun c6 => ?_)
  · skip
    refine lv_iconst (v := (nI 0)) hx hb dX5_has_13 (by decide) ?_
    refine rr_top (y := bi false) rfl ?_
    exact rr_zret hx hb hr hlocks dX5_has_14 (by unfold hasB; first | exact (decide_eq_true c6).symm | exact (decide_eq_false c6).symm)
  refine lv_iconst (v := (nI 1)) hx hb dX5_has_9 (by decide) ?_
  refine lv_goto (tgt := 14) hx hb dX5_has_10 (by decide) ?_
  refine rr_top (y := bi true) rfl ?_
  exact rr_zret hx hb hr hlocks dX5_has_14 (by unfold hasB; first | exact (decide_eq_true c6).symm | exact (decide_eq_false c6).symm)
set_option maxHeartbeats 4000000 in
set_option maxRecDepth 100000 in
theorem c_X5_in (l : Launch) (v lo hi : Int64) : Met l yX5_in wsX5_in ({ frames := 0, cells := 0, slots := 0, locals := 0 }) (va_Pc [.long v, .long lo, .long hi] (fun _ => True)) (QcRead (bi (inL v lo hi))) 0 0 (fun _ => False) := by
  refine Met.ofW (cc := cX5_in) (maxL := 6) (ret := (some .boolean)) (by decide) rfl ?_
  intro p e s m args below meth c s₁ B hml hv
  obtain ⟨rfl, -⟩ := hv
  have hx := B.exec
  have hb := B.bytes
  have hr := B.returns
  have hts := atoms_spec (ws := wsX5_in) B.pre
  have hown : s.vm.findClass RX5 = some m.cls := findClass_of_methodNamed B.named
  have hlocks := B.notSynchronized
  have hl := lv_entry ([.long v, .long lo, .long hi]) (n := 6) (Nat.le_of_ble_eq_true rfl)
  rw [lg_entry_eq]
  generalize (lg_sl ([.long v, .long lo, .long hi]) ++ List.replicate (6 - (lg_sl ([.long v, .long lo, .long hi])).length) Slot.unset).toArray = ls at hl ⊢
  have hl : lv_has ls 6 [(0, .long v), (2, .long lo), (4, .long hi)] := hl
  refine lv_lload_n hx hb dX5_in_0 rfl (lv_at hl 0 rfl) ?_
  refine lv_lload_n hx hb dX5_in_1 rfl (lv_at hl 1 rfl) ?_
  refine W.lcmp hx hb dX5_in_2 ?_
  refine lv_if_lt (tgt := 17) hx hb dX5_in_3 (by decide) (fun c3 => ?_) (fun c3 => ?_)
  · skip
    refine lv_iconst (v := (nI 0)) hx hb dX5_in_17 (by decide) ?_
    refine rr_top (y := bi false) rfl ?_
    exact rr_zret hx hb hr hlocks dX5_in_18 (by first | (rw [inL_t (cmp_nlt c3) (cmp_ngt c10)]; done) | (rw [inL_f2 (cmp_gt c10)]; done) | rw [inL_f1 (cmp_lt c3)])
  refine lv_lload_n hx hb dX5_in_6 rfl (lv_at hl 0 rfl) ?_
  refine lv_lload hx hb dX5_in_7 (lv_at hl 2 rfl) ?_
  refine W.lcmp hx hb dX5_in_9 ?_
  refine lv_if_gt (tgt := 17) hx hb dX5_in_10 (by decide) (fun c10 => ?_) (fun c10 => ?_)
  · skip
    refine lv_iconst (v := (nI 0)) hx hb dX5_in_17 (by decide) ?_
    refine rr_top (y := bi false) rfl ?_
    exact rr_zret hx hb hr hlocks dX5_in_18 (by first | (rw [inL_t (cmp_nlt c3) (cmp_ngt c10)]; done) | (rw [inL_f2 (cmp_gt c10)]; done) | rw [inL_f1 (cmp_lt c3)])
  refine lv_iconst (v := (nI 1)) hx hb dX5_in_13 (by decide) ?_
  refine lv_goto (tgt := 18) hx hb dX5_in_14 (by decide) ?_
  refine rr_top (y := bi true) rfl ?_
  exact rr_zret hx hb hr hlocks dX5_in_18 (by first | (rw [inL_t (cmp_nlt c3) (cmp_ngt c10)]; done) | (rw [inL_f2 (cmp_gt c10)]; done) | rw [inL_f1 (cmp_lt c3)])
set_option maxHeartbeats 4000000 in
set_option maxRecDepth 100000 in
theorem c_X5_isRegister (l : Launch) (x : Int32) : Met l yX5_isRegister wsX5_isRegister ({ frames := 1, cells := 0, slots := 0, locals := 25 }) (va_Pc [.int x] (fun _ => True)) (QcRead (bi (inb x 4))) 0 0 (fun _ => False) := by
  refine Met.ofW (cc := cX5_isRegister) (maxL := 1) (ret := (some .boolean)) (by decide) rfl ?_
  intro p e s m args below meth c s₁ B hml hv
  obtain ⟨rfl, -⟩ := hv
  have hx := B.exec
  have hb := B.bytes
  have hr := B.returns
  have hts := atoms_spec (ws := wsX5_isRegister) B.pre
  have hown : s.vm.findClass RX5 = some m.cls := findClass_of_methodNamed B.named
  have hlocks := B.notSynchronized
  have hl := lv_entry ([.int x]) (n := 1) (Nat.le_of_ble_eq_true rfl)
  rw [lg_entry_eq]
  generalize (lg_sl ([.int x]) ++ List.replicate (1 - (lg_sl ([.int x])).length) Slot.unset).toArray = ls at hl ⊢
  have hl : lv_has ls 1 [(0, .int x)] := hl
  refine lv_iload_n hx hb dX5_isRegister_0 rfl (lv_at hl 0 rfl) ?_
  refine lv_i2l hx hb dX5_isRegister_1 rfl ?_
  refine lv_lconst (v := 0) hx hb dX5_isRegister_2 (by decide) ?_
  refine lv_ldc2 (v := 3) hx hb hown (hts (.constantLong RX5 39 (3)) (by decide +kernel)) dX5_isRegister_3 ?_
  refine rr_callR (va_runS (As := [.long x.toInt64, .long 0, .long 3]) (rest := []) ⟨hx, hb, hml, hown, hts⟩ (c_X5_in l x.toInt64 0 3 ) (va_cwS 3 hts gX5_isRegister_X5_in rfl rfl rfl (by decide +kernel) ⟨Nat.le_of_ble_eq_true rfl, Nat.le_of_ble_eq_true rfl⟩) rr_preT rfl rfl hl.1 rfl (lv_room (Nat.le_of_ble_eq_true rfl)) dX5_isRegister_6 ⟨Nat.zero_le _, Nat.zero_le _⟩) ?_
  exact rr_zret hx hb hr hlocks dX5_isRegister_9 (inL_lit (n := 4) (by decide))
set_option maxHeartbeats 4000000 in
set_option maxRecDepth 100000 in
theorem c_X5_isLane (l : Launch) (x : Int32) : Met l yX5_isLane wsX5_isLane ({ frames := 1, cells := 0, slots := 0, locals := 25 }) (va_Pc [.int x] (fun _ => True)) (QcRead (bi (inb x 4))) 0 0 (fun _ => False) := by
  refine Met.ofW (cc := cX5_isLane) (maxL := 1) (ret := (some .boolean)) (by decide) rfl ?_
  intro p e s m args below meth c s₁ B hml hv
  obtain ⟨rfl, -⟩ := hv
  have hx := B.exec
  have hb := B.bytes
  have hr := B.returns
  have hts := atoms_spec (ws := wsX5_isLane) B.pre
  have hown : s.vm.findClass RX5 = some m.cls := findClass_of_methodNamed B.named
  have hlocks := B.notSynchronized
  have hl := lv_entry ([.int x]) (n := 1) (Nat.le_of_ble_eq_true rfl)
  rw [lg_entry_eq]
  generalize (lg_sl ([.int x]) ++ List.replicate (1 - (lg_sl ([.int x])).length) Slot.unset).toArray = ls at hl ⊢
  have hl : lv_has ls 1 [(0, .int x)] := hl
  refine lv_iload_n hx hb dX5_isLane_0 rfl (lv_at hl 0 rfl) ?_
  refine lv_i2l hx hb dX5_isLane_1 rfl ?_
  refine lv_lconst (v := 0) hx hb dX5_isLane_2 (by decide) ?_
  refine lv_ldc2 (v := 3) hx hb hown (hts (.constantLong RX5 39 (3)) (by decide +kernel)) dX5_isLane_3 ?_
  refine rr_callR (va_runS (As := [.long x.toInt64, .long 0, .long 3]) (rest := []) ⟨hx, hb, hml, hown, hts⟩ (c_X5_in l x.toInt64 0 3 ) (va_cwS 3 hts gX5_isLane_X5_in rfl rfl rfl (by decide +kernel) ⟨Nat.le_of_ble_eq_true rfl, Nat.le_of_ble_eq_true rfl⟩) rr_preT rfl rfl hl.1 rfl (lv_room (Nat.le_of_ble_eq_true rfl)) dX5_isLane_6 ⟨Nat.zero_le _, Nat.zero_le _⟩) ?_
  exact rr_zret hx hb hr hlocks dX5_isLane_9 (inL_lit (n := 4) (by decide))
set_option maxHeartbeats 4000000 in
set_option maxRecDepth 100000 in
theorem c_X5_kindOf (l : Launch) (x : Int32) : Met l yX5_kindOf wsX5_kindOf ({ frames := 0, cells := 0, slots := 0, locals := 0 }) (va_Pc [.int x] (fun _ => True)) (QcRead (kindC x)) 0 0 (fun _ => False) := by
  refine Met.ofW (cc := cX5_kindOf) (maxL := 1) (ret := (some .int)) (by decide) rfl ?_
  intro p e s m args below meth c s₁ B hml hv
  obtain ⟨rfl, -⟩ := hv
  have hx := B.exec
  have hb := B.bytes
  have hr := B.returns
  have hts := atoms_spec (ws := wsX5_kindOf) B.pre
  have hown : s.vm.findClass RX5 = some m.cls := findClass_of_methodNamed B.named
  have hlocks := B.notSynchronized
  have hl := lv_entry ([.int x]) (n := 1) (Nat.le_of_ble_eq_true rfl)
  rw [lg_entry_eq]
  generalize (lg_sl ([.int x]) ++ List.replicate (1 - (lg_sl ([.int x])).length) Slot.unset).toArray = ls at hl ⊢
  have hl : lv_has ls 1 [(0, .int x)] := hl
  refine lv_iload_n hx hb dX5_kindOf_0 rfl (lv_at hl 0 rfl) ?_
  refine lv_bipush (v := (nI 112)) hx hb dX5_kindOf_1 (by decide) ?_
  refine lv_icmp_ne (tgt := 10) hx hb dX5_kindOf_3 (by decide) (fun c3 => ?_) (fun c3 => ?_)
  · skip
    refine lv_iload_n hx hb dX5_kindOf_10 rfl (lv_at hl 0 rfl) ?_
    refine lv_bipush (v := (nI 108)) hx hb dX5_kindOf_11 (by decide) ?_
    refine lv_icmp_ne (tgt := 20) hx hb dX5_kindOf_13 (by decide) (fun c13 => ?_) (fun c13 => ?_)
    · skip
      refine lv_iload_n hx hb dX5_kindOf_20 rfl (lv_at hl 0 rfl) ?_
      refine lv_bipush (v := (nI 115)) hx hb dX5_kindOf_21 (by decide) ?_
      refine lv_icmp_ne (tgt := 30) hx hb dX5_kindOf_23 (by decide) (fun c23 => ?_) (fun c23 => ?_)
      · skip
        refine lv_iload_n hx hb dX5_kindOf_30 rfl (lv_at hl 0 rfl) ?_
        refine lv_bipush (v := (nI 119)) hx hb dX5_kindOf_31 (by decide) ?_
        refine lv_icmp_ne (tgt := 40) hx hb dX5_kindOf_33 (by decide) (fun c33 => ?_) (fun c33 => ?_)
        · skip
          refine lv_iload_n hx hb dX5_kindOf_40 rfl (lv_at hl 0 rfl) ?_
          refine lv_bipush (v := (nI 122)) hx hb dX5_kindOf_41 (by decide) ?_
          refine lv_icmp_ne (tgt := 50) hx hb dX5_kindOf_43 (by decide) (fun c43 => ?_) (fun c43 => ?_)
          · skip
            refine lv_iconst (v := (-1)) hx hb dX5_kindOf_50 (by decide) ?_
            exact rr_iret hx hb hr hlocks dX5_kindOf_51 (by unfold kindC; (repeat' split) <;> first | rfl | contradiction)
          refine lv_iconst (v := (nI 4)) hx hb dX5_kindOf_46 (by decide) ?_
          refine lv_goto (tgt := 51) hx hb dX5_kindOf_47 (by decide) ?_
          exact rr_iret hx hb hr hlocks dX5_kindOf_51 (by unfold kindC; (repeat' split) <;> first | rfl | contradiction)
        refine lv_iconst (v := (nI 3)) hx hb dX5_kindOf_36 (by decide) ?_
        refine lv_goto (tgt := 51) hx hb dX5_kindOf_37 (by decide) ?_
        exact rr_iret hx hb hr hlocks dX5_kindOf_51 (by unfold kindC; (repeat' split) <;> first | rfl | contradiction)
      refine lv_iconst (v := (nI 2)) hx hb dX5_kindOf_26 (by decide) ?_
      refine lv_goto (tgt := 51) hx hb dX5_kindOf_27 (by decide) ?_
      exact rr_iret hx hb hr hlocks dX5_kindOf_51 (by unfold kindC; (repeat' split) <;> first | rfl | contradiction)
    refine lv_iconst (v := (nI 1)) hx hb dX5_kindOf_16 (by decide) ?_
    refine lv_goto (tgt := 51) hx hb dX5_kindOf_17 (by decide) ?_
    exact rr_iret hx hb hr hlocks dX5_kindOf_51 (by unfold kindC; (repeat' split) <;> first | rfl | contradiction)
  refine lv_iconst (v := (nI 0)) hx hb dX5_kindOf_6 (by decide) ?_
  refine lv_goto (tgt := 51) hx hb dX5_kindOf_7 (by decide) ?_
  exact rr_iret hx hb hr hlocks dX5_kindOf_51 (by unfold kindC; (repeat' split) <;> first | rfl | contradiction)
set_option maxHeartbeats 4000000 in
set_option maxRecDepth 100000 in
theorem c_X5_cut (l : Launch) (x : Int32) (v : Int64) : Met l yX5_cut wsX5_cut ({ frames := 0, cells := 0, slots := 0, locals := 0 }) (va_Pc [.int x, .long v] (fun _ => True)) (QcReadL (cutL x v)) 0 0 (fun _ => False) := by
  refine Met.ofW (cc := cX5_cut) (maxL := 3) (ret := (some .long)) (by decide) rfl ?_
  intro p e s m args below meth c s₁ B hml hv
  obtain ⟨rfl, -⟩ := hv
  have hx := B.exec
  have hb := B.bytes
  have hr := B.returns
  have hts := atoms_spec (ws := wsX5_cut) B.pre
  have hown : s.vm.findClass RX5 = some m.cls := findClass_of_methodNamed B.named
  have hlocks := B.notSynchronized
  have hl := lv_entry ([.int x, .long v]) (n := 3) (Nat.le_of_ble_eq_true rfl)
  rw [lg_entry_eq]
  generalize (lg_sl ([.int x, .long v]) ++ List.replicate (3 - (lg_sl ([.int x, .long v])).length) Slot.unset).toArray = ls at hl ⊢
  have hl : lv_has ls 3 [(0, .int x), (1, .long v)] := hl
  refine lv_iload_n hx hb dX5_cut_0 rfl (lv_at hl 0 rfl) ?_
  refine lv_if_ne (tgt := 11) hx hb dX5_cut_1 (by decide) (fun c1 => ?_) (fun c1 => ?_)
  · skip
    refine lv_iload_n hx hb dX5_cut_11 rfl (lv_at hl 0 rfl) ?_
    refine lv_iconst (v := (nI 1)) hx hb dX5_cut_12 (by decide) ?_
    refine lv_icmp_ne (tgt := 23) hx hb dX5_cut_13 (by decide) (fun c13 => ?_) (fun c13 => ?_)
    · skip
      refine lv_iload_n hx hb dX5_cut_23 rfl (lv_at hl 0 rfl) ?_
      refine lv_iconst (v := (nI 2)) hx hb dX5_cut_24 (by decide) ?_
      refine lv_icmp_ne (tgt := 34) hx hb dX5_cut_25 (by decide) (fun c25 => ?_) (fun c25 => ?_)
      · skip
        refine lv_lload_n hx hb dX5_cut_34 rfl (lv_at hl 1 rfl) ?_
        exact rr_lret hx hb hr hlocks dX5_cut_35 (by unfold cutL; rw [nI_0]; (repeat' split) <;> first | rfl | contradiction)
      refine lv_lload_n hx hb dX5_cut_28 rfl (lv_at hl 1 rfl) ?_
      refine lv_l2i hx hb dX5_cut_29 rfl ?_
      refine lv_i2l hx hb dX5_cut_30 rfl ?_
      refine lv_goto (tgt := 35) hx hb dX5_cut_31 (by decide) ?_
      exact rr_lret hx hb hr hlocks dX5_cut_35 (by unfold cutL; rw [nI_0]; (repeat' split) <;> first | rfl | contradiction)
    refine lv_lload_n hx hb dX5_cut_16 rfl (lv_at hl 1 rfl) ?_
    refine lv_l2i hx hb dX5_cut_17 rfl ?_
    refine lv_i2s hx hb dX5_cut_18 rfl ?_
    refine lv_i2l hx hb dX5_cut_19 rfl ?_
    refine lv_goto (tgt := 35) hx hb dX5_cut_20 (by decide) ?_
    exact rr_lret hx hb hr hlocks dX5_cut_35 (by unfold cutL; rw [nI_0]; (repeat' split) <;> first | rfl | contradiction)
  refine lv_lload_n hx hb dX5_cut_4 rfl (lv_at hl 1 rfl) ?_
  refine lv_l2i hx hb dX5_cut_5 rfl ?_
  refine lv_i2b hx hb dX5_cut_6 rfl ?_
  refine lv_i2l hx hb dX5_cut_7 rfl ?_
  refine lv_goto (tgt := 35) hx hb dX5_cut_8 (by decide) ?_
  exact rr_lret hx hb hr hlocks dX5_cut_35 (by unfold cutL; rw [nI_0]; (repeat' split) <;> first | rfl | contradiction)
set_option maxHeartbeats 4000000 in
set_option maxRecDepth 100000 in
theorem c_X1_lowestBits (l : Launch) (x : Int32) (v : Int64) : Met l yX1_lowestBits wsX1_lowestBits ({ frames := 0, cells := 0, slots := 0, locals := 0 }) (va_Pc [.int x, .long v] (fun _ => True)) (QcReadL (cutL x v)) 0 0 (fun _ => False) := by
  refine Met.ofW (cc := cX1_lowestBits) (maxL := 3) (ret := (some .long)) (by decide) rfl ?_
  intro p e s m args below meth c s₁ B hml hv
  obtain ⟨rfl, -⟩ := hv
  have hx := B.exec
  have hb := B.bytes
  have hr := B.returns
  have hts := atoms_spec (ws := wsX1_lowestBits) B.pre
  have hown : s.vm.findClass RX1 = some m.cls := findClass_of_methodNamed B.named
  have hlocks := B.notSynchronized
  have hl := lv_entry ([.int x, .long v]) (n := 3) (Nat.le_of_ble_eq_true rfl)
  rw [lg_entry_eq]
  generalize (lg_sl ([.int x, .long v]) ++ List.replicate (3 - (lg_sl ([.int x, .long v])).length) Slot.unset).toArray = ls at hl ⊢
  have hl : lv_has ls 3 [(0, .int x), (1, .long v)] := hl
  refine lv_iload_n hx hb dX1_lowestBits_0 rfl (lv_at hl 0 rfl) ?_
  by_cases w1_0 : x = nI 0
  · refine rr_top w1_0 ?_
    refine lv_tableIn (off := 27) (tgt := 28) hx hb dX1_lowestBits_1 (by decide) (by decide) (by decide) (by decide) ?_
    refine lv_lload_n hx hb dX1_lowestBits_28 rfl (lv_at hl 1 rfl) ?_
    refine lv_l2i hx hb dX1_lowestBits_29 rfl ?_
    refine lv_i2b hx hb dX1_lowestBits_30 rfl ?_
    refine lv_i2l hx hb dX1_lowestBits_31 rfl ?_
    exact rr_lret hx hb hr hlocks dX1_lowestBits_32 (by unfold cutL; (repeat' split) <;> first | rfl | contradiction)
  by_cases w1_1 : x = nI 1
  · refine rr_top w1_1 ?_
    refine lv_tableIn (off := 32) (tgt := 33) hx hb dX1_lowestBits_1 (by decide) (by decide) (by decide) (by decide) ?_
    refine lv_lload_n hx hb dX1_lowestBits_33 rfl (lv_at hl 1 rfl) ?_
    refine lv_l2i hx hb dX1_lowestBits_34 rfl ?_
    refine lv_i2s hx hb dX1_lowestBits_35 rfl ?_
    refine lv_i2l hx hb dX1_lowestBits_36 rfl ?_
    exact rr_lret hx hb hr hlocks dX1_lowestBits_37 (by unfold cutL; (repeat' split) <;> first | rfl | contradiction)
  by_cases w1_2 : x = nI 2
  · refine rr_top w1_2 ?_
    refine lv_tableIn (off := 37) (tgt := 38) hx hb dX1_lowestBits_1 (by decide) (by decide) (by decide) (by decide) ?_
    refine lv_lload_n hx hb dX1_lowestBits_38 rfl (lv_at hl 1 rfl) ?_
    refine lv_l2i hx hb dX1_lowestBits_39 rfl ?_
    refine lv_i2l hx hb dX1_lowestBits_40 rfl ?_
    exact rr_lret hx hb hr hlocks dX1_lowestBits_41 (by unfold cutL; (repeat' split) <;> first | rfl | contradiction)
  refine lv_tableOut (tgt := 42) hx hb dX1_lowestBits_1 (sw_out 0 2 (fun k h1 h2 => by rcases (show k = 0 ∨ k = 1 ∨ k = 2 by omega) with rfl | rfl | rfl <;> assumption)) (by decide) ?_
  refine lv_lload_n hx hb dX1_lowestBits_42 rfl (lv_at hl 1 rfl) ?_
  exact rr_lret hx hb hr hlocks dX1_lowestBits_43 (by unfold cutL; (repeat' split) <;> first | rfl | contradiction)
set_option maxHeartbeats 4000000 in
set_option maxRecDepth 100000 in
theorem c_X2_isDigit (l : Launch) (x : Int32) : Met l yX2_isDigit wsX2_isDigit ({ frames := 0, cells := 0, slots := 0, locals := 0 }) (va_Pc [.int x] (fun _ => True)) (QcRead (bi (digB x))) 0 0 (fun _ => False) := by
  refine Met.ofW (cc := cX2_isDigit) (maxL := 1) (ret := (some .boolean)) (by decide) rfl ?_
  intro p e s m args below meth c s₁ B hml hv
  obtain ⟨rfl, -⟩ := hv
  have hx := B.exec
  have hb := B.bytes
  have hr := B.returns
  have hts := atoms_spec (ws := wsX2_isDigit) B.pre
  have hown : s.vm.findClass RX2 = some m.cls := findClass_of_methodNamed B.named
  have hlocks := B.notSynchronized
  have hl := lv_entry ([.int x]) (n := 1) (Nat.le_of_ble_eq_true rfl)
  rw [lg_entry_eq]
  generalize (lg_sl ([.int x]) ++ List.replicate (1 - (lg_sl ([.int x])).length) Slot.unset).toArray = ls at hl ⊢
  have hl : lv_has ls 1 [(0, .int x)] := hl
  refine lv_iload_n hx hb dX2_isDigit_0 rfl (lv_at hl 0 rfl) ?_
  refine lv_bipush (v := (nI 48)) hx hb dX2_isDigit_1 (by decide) ?_
  refine lv_icmp_lt (tgt := 16) hx hb dX2_isDigit_3 (by decide) (fun c3 => ?_) (fun c3 => ?_)
  · skip
    refine lv_iconst (v := (nI 0)) hx hb dX2_isDigit_16 (by decide) ?_
    refine rr_top (y := bi false) rfl ?_
    exact rr_zret hx hb hr hlocks dX2_isDigit_17 (by first | (rw [dig_t c3 c9]; done) | (rw [dig_f2 c9]; done) | rw [dig_f1 c3])
  refine lv_iload_n hx hb dX2_isDigit_6 rfl (lv_at hl 0 rfl) ?_
  refine lv_bipush (v := (nI 57)) hx hb dX2_isDigit_7 (by decide) ?_
  refine lv_icmp_gt (tgt := 16) hx hb dX2_isDigit_9 (by decide) (fun c9 => ?_) (fun c9 => ?_)
  · skip
    refine lv_iconst (v := (nI 0)) hx hb dX2_isDigit_16 (by decide) ?_
    refine rr_top (y := bi false) rfl ?_
    exact rr_zret hx hb hr hlocks dX2_isDigit_17 (by first | (rw [dig_t c3 c9]; done) | (rw [dig_f2 c9]; done) | rw [dig_f1 c3])
  refine lv_iconst (v := (nI 1)) hx hb dX2_isDigit_12 (by decide) ?_
  refine lv_goto (tgt := 17) hx hb dX2_isDigit_13 (by decide) ?_
  refine rr_top (y := bi true) rfl ?_
  exact rr_zret hx hb hr hlocks dX2_isDigit_17 (by first | (rw [dig_t c3 c9]; done) | (rw [dig_f2 c9]; done) | rw [dig_f1 c3])
set_option maxHeartbeats 4000000 in
set_option maxRecDepth 100000 in
theorem c_X2_faultAt (l : Launch) (x : Nat) : Met l yX2_faultAt wsX2_faultAt ({ frames := 0, cells := 0, slots := 0, locals := 0 }) (va_Pc [.int (nI x)] (fun _ => True)) (QcRead ((-20) - nI x)) 0 0 (fun _ => False) := by
  refine Met.ofW (cc := cX2_faultAt) (maxL := 1) (ret := (some .int)) (by decide) rfl ?_
  intro p e s m args below meth c s₁ B hml hv
  obtain ⟨rfl, -⟩ := hv
  have hx := B.exec
  have hb := B.bytes
  have hr := B.returns
  have hts := atoms_spec (ws := wsX2_faultAt) B.pre
  have hown : s.vm.findClass RX2 = some m.cls := findClass_of_methodNamed B.named
  have hlocks := B.notSynchronized
  have hl := lv_entry ([.int (nI x)]) (n := 1) (Nat.le_of_ble_eq_true rfl)
  rw [lg_entry_eq]
  generalize (lg_sl ([.int (nI x)]) ++ List.replicate (1 - (lg_sl ([.int (nI x)])).length) Slot.unset).toArray = ls at hl ⊢
  have hl : lv_has ls 1 [(0, .int (nI x))] := hl
  refine lv_bipush (v := (-20)) hx hb dX2_faultAt_0 (by decide) ?_
  refine lv_iload_n hx hb dX2_faultAt_2 rfl (lv_at hl 0 rfl) ?_
  refine lv_isub hx hb dX2_faultAt_3 ?_
  exact rr_iret hx hb hr hlocks dX2_faultAt_4 (rfl)
