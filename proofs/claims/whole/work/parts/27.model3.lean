set_option maxHeartbeats 4000000 in
set_option maxRecDepth 100000 in
theorem c_X5_lay_g (l : Launch) (dC : Nat → ClassId) (dI : Nat → Nat → Nat) (cI cJ cS : ClassId) (sz : Nat) (m0 mw mt ml mz mi mr md mh : Nat) (im : Bool) (tl at0 st0 nu rm rh : Nat) (Bw Rs : Nat → Nat) (r v : Nat) (hm : mOk Bw) (hr4 : r < 4) (hv2 : v < spB Bw) : Met l yX5_lay wsX5_lay ({ frames := 2, cells := 0, slots := 0, locals := 45 }) (va_Pc [.ref m0, .int (nI r), .int (nI v)] (rW (dC, dI) vwCl [(m0, .inr (5, [.ref mw, .int (bi im), .ref mt, .int (nI tl), .ref ml, .ref mz, .ref mi, .ref mr, .int (nI at0), .int (nI st0), .int (nI nu), .int (nI rm), .int (nI rh), .ref md, .ref mh])), (mw, .inl (cI, 480, .inl (nA Bw))), (mr, .inl (cI, 6, .inl (nA Rs)))] (tyz cI cJ cS) sz)) (qIs (nI (VB Bw r)) (dC, dI) vwCl (fun Rq => [(m0, .inr (5, [.ref mw, .int (bi im), .ref mt, .int (nI tl), .ref ml, .ref mz, .ref mi, .ref mr, .int (nI at0), .int (nI st0), .int (nI nu), .int (nI rm), .int (nI rh), .ref md, .ref mh])), (mw, .inl (cI, 480, .inl (nA (rwB r (fun k => v % wdB Bw k) (Bw 0) (mdB Bw))))), (mr, .inl (cI, 6, .inl (nA Rq)))]) (va_A [(m0, .inr (5, [.ref mw, .int (bi im), .ref mt, .int (nI tl), .ref ml, .ref mz, .ref mi, .ref mr, .int (nI at0), .int (nI st0), .int (nI nu), .int (nI rm), .int (nI rh), .ref md, .ref mh])), (mw, .inl (cI, 480, .inl (nA Bw))), (mr, .inl (cI, 6, .inl (nA Rs)))] sz)) 0 0 (va_A [(m0, .inr (5, [.ref mw, .int (bi im), .ref mt, .int (nI tl), .ref ml, .ref mz, .ref mi, .ref mr, .int (nI at0), .int (nI st0), .int (nI nu), .int (nI rm), .int (nI rh), .ref md, .ref mh])), (mw, .inl (cI, 480, .inl (nA Bw))), (mr, .inl (cI, 6, .inl (nA Rs)))] sz) := by
  refine Met.ofW (cc := cX5_lay) (maxL := 4) (ret := (some .int)) (by decide) rfl ?_
  intro p e s m args below meth c s₁ B hml hv
  obtain ⟨rfl, hsz, hP, hKK, hD0⟩ := hv
  have hK := hKK.1
  have hx := B.exec
  have hb := B.bytes
  have hr := B.returns
  have hts := atoms_spec (ws := wsX5_lay) B.pre
  have hown : s.vm.findClass RX5 = some m.cls := findClass_of_methodNamed B.named
  have hlocks := B.notSynchronized
  subst hsz
  have hD := hD0.self (sz := s.heap.size)
  generalize hAe : va_A [(m0, .inr (5, [.ref mw, .int (bi im), .ref mt, .int (nI tl), .ref ml, .ref mz, .ref mi, .ref mr, .int (nI at0), .int (nI st0), .int (nI nu), .int (nI rm), .int (nI rh), .ref md, .ref mh])), (mw, .inl (cI, 480, .inl (nA Bw))), (mr, .inl (cI, 6, .inl (nA Rs)))] s.heap.size = A at hD ⊢
  have hA : ∀ q : Nat, s.heap.size ≤ q → A q := fun q h => by rw [← hAe]; exact Or.inr h
  have hS : va_S A s.heap s.heap [] := va_S.rf
  have hP : va_P (dC, dI) vwCl [(m0, .inr (5, [.ref mw, .int (bi im), .ref mt, .int (nI tl), .ref ml, .ref mz, .ref mi, .ref mr, .int (nI at0), .int (nI st0), .int (nI nu), .int (nI rm), .int (nI rh), .ref md, .ref mh])), (mw, .inl (cI, 480, .inl (nA Bw))), (mr, .inl (cI, 6, .inl (nA Rs)))] s.heap := hP
  have hl := lv_entry ([.ref m0, .int (nI r), .int (nI v)]) (n := 4) (Nat.le_of_ble_eq_true rfl)
  rw [lg_entry_eq]
  generalize (lg_sl ([.ref m0, .int (nI r), .int (nI v)]) ++ List.replicate (4 - (lg_sl ([.ref m0, .int (nI r), .int (nI v)])).length) Slot.unset).toArray = ls at hl ⊢
  have hl : lv_has ls 4 [(0, .ref m0), (1, .int (nI r)), (2, .int (nI v))] := hl
  have hn6 := hm.n
  have hsb := spB_b hm
  refine lv_iload_n hx hb dX5_lay_0 rfl (lv_at hl 1 rfl) ?_
  refine rr_callR (va_runS (As := [.int (nI r)]) (rest := []) ⟨hx, hb, hml, hown, hts⟩ (c_X5_isRegister l (nI r) ) (va_cwS 1 hts gX5_lay_X5_isRegister rfl rfl rfl (by decide +kernel) ⟨Nat.le_of_ble_eq_true rfl, Nat.le_of_ble_eq_true rfl⟩) rr_preT rfl rfl hl.1 rfl (lv_room (Nat.le_of_ble_eq_true rfl)) dX5_lay_1 ⟨Nat.zero_le _, Nat.zero_le _⟩) ?_
  refine rr_top (y := bi true) (congrArg bi (inb_lt (by omega) (by omega))) ?_
  refine rb_if_eq (tgt := 23) hx hb dX5_lay_4 (by decide) (fun c4 => ?_) (fun c4 => ?_)
  · exact absurd c4 (by decide)
  refine lv_iload_n hx hb dX5_lay_7 rfl (lv_at hl 2 rfl) ?_
  refine lv_i2l hx hb dX5_lay_8 rfl ?_
  refine lv_lconst (v := 0) hx hb dX5_lay_9 (by decide) ?_
  refine lv_aload_n hx hb dX5_lay_10 rfl (lv_at hl 0 rfl) ?_
  refine rr_callR (va_runV (As := []) (rest := [.long 0, .long ((nI v).toInt64)]) ⟨hx, hb, hml, hown, hts⟩ (c_X5_span l dC dI cI cJ cS m0 mw mt ml mz mi mr md mh im tl at0 st0 nu rm rh Bw (by first | assumption | omega)) (cwV 0 hts gX5_lay_X5_span rfl rfl rfl (by decide +kernel) ⟨Nat.le_of_ble_eq_true rfl, Nat.le_of_ble_eq_true rfl⟩) (rr_preV hKK (hP.sub [0, 1] rfl) rfl rfl) rfl rfl hl.1 rfl (lv_room (Nat.le_of_ble_eq_true rfl)) dX5_lay_11 ⟨Nat.zero_le _, Nat.zero_le _⟩) ?_
  refine lv_iconst (v := (nI 1)) hx hb dX5_lay_14 (by decide) ?_
  refine lv_isub hx hb dX5_lay_15 ?_
  refine lv_i2l hx hb dX5_lay_16 rfl ?_
  refine rr_callR (va_runS (As := [.long ((nI v).toInt64), .long 0, .long (((nI (spB Bw)) - (nI 1)).toInt64)]) (rest := []) ⟨hx, hb, hml, hown, hts⟩ (c_X5_in l ((nI v).toInt64) 0 (((nI (spB Bw)) - (nI 1)).toInt64) ) (va_cwS 3 hts gX5_lay_X5_in rfl rfl rfl (by decide +kernel) ⟨Nat.le_of_ble_eq_true rfl, Nat.le_of_ble_eq_true rfl⟩) rr_preT rfl rfl hl.1 rfl (lv_room (Nat.le_of_ble_eq_true rfl)) dX5_lay_17 ⟨Nat.zero_le _, Nat.zero_le _⟩) ?_
  refine rr_top (y := bi (inb (nI v) (spB Bw))) (congrArg bi (inL_inb (by omega))) ?_
  refine rr_top (y := bi true) (congrArg bi (inb_lt (by omega) (by omega))) ?_
  refine rb_if_ne (tgt := 25) hx hb dX5_lay_20 (by decide) (fun c20 => ?_) (fun c20 => ?_)
  rotate_left
  · exact absurd c20 (by decide)
  refine lv_aload_n hx hb dX5_lay_25 rfl (lv_at hl 0 rfl) ?_
  refine lv_iload_n hx hb dX5_lay_26 rfl (lv_at hl 1 rfl) ?_
  refine rw_calli (va_runV (As := [.int (nI r)]) (rest := []) ⟨hx, hb, hml, hown, hts⟩ (c_X5_value l dC dI cI cJ cS _ m0 mw mt ml mz mi mr md mh im tl at0 st0 nu rm rh Bw Rs r (by first | assumption | omega) (by first | assumption | omega)) (cwV 1 hts gX5_lay_X5_value rfl rfl rfl (by decide +kernel) ⟨Nat.le_of_ble_eq_true rfl, Nat.le_of_ble_eq_true rfl⟩) (rw_preV hKK hP hD rfl rfl) rfl rfl hl.1 rfl (lv_room (Nat.le_of_ble_eq_true rfl)) dX5_lay_27 ⟨Nat.zero_le _, Nat.zero_le _⟩) (wr := []) hP hD hS hA [0, 1, 2] [] rfl rfl (by decide) (by decide) (fun H locs hP hD hS => ?_)
  have hP : va_P (dC, dI) vwCl [(m0, .inr (5, [.ref mw, .int (bi im), .ref mt, .int (nI tl), .ref ml, .ref mz, .ref mi, .ref mr, .int (nI at0), .int (nI st0), .int (nI nu), .int (nI rm), .int (nI rh), .ref md, .ref mh])), (mw, .inl (cI, 480, .inl (nA Bw))), (mr, .inl (cI, 6, .inl (nA (lkN Bw r 6 Rs))))] H := hP.sub [0, 1, 2] rfl
  have hD : va_D A [(m0, .inr (5, [.ref mw, .int (bi im), .ref mt, .int (nI tl), .ref ml, .ref mz, .ref mi, .ref mr, .int (nI at0), .int (nI st0), .int (nI nu), .int (nI rm), .int (nI rh), .ref md, .ref mh])), (mw, .inl (cI, 480, .inl (nA Bw))), (mr, .inl (cI, 6, .inl (nA (lkN Bw r 6 Rs))))] := hD.sub [0, 1, 2] (by decide) rfl
  refine lv_istore_n (lv' := [(3, .int (nI (VB Bw r))), (0, .ref m0), (1, .int (nI r)), (2, .int (nI v))]) hx hb dX5_lay_30 rfl hl (by decide) rfl (fun ls hl => ?_)
  refine lv_aload_n hx hb dX5_lay_31 rfl (lv_at hl 1 rfl) ?_
  refine rw_callv (va_runV (As := []) (rest := []) ⟨hx, hb, hml, hown, hts⟩ (c_X5_minds l dC dI cI cJ cS _ m0 mw mt ml mz mi mr md mh im tl at0 st0 nu rm rh Bw (hm.2.2.2.1)) (cwV 0 hts gX5_lay_X5_minds rfl rfl rfl (by decide +kernel) ⟨Nat.le_of_ble_eq_true rfl, Nat.le_of_ble_eq_true rfl⟩) (rw_preV hKK (hP.sub [0, 1] rfl) (hD.sub [0, 1] (by decide) rfl) rfl rfl) rfl rfl hl.1 rfl (lv_room (Nat.le_of_ble_eq_true rfl)) dX5_lay_32 ⟨Nat.zero_le _, Nat.zero_le _⟩) (wr := [(mr, .inl (cI, 6, .inl (nA (lkN Bw r 6 Rs))))]) hP hD hS hA [0, 1] [2] rfl rfl (by decide) (by decide) (fun H locs hP hD hS => ?_)
  have hP : va_P (dC, dI) vwCl [(m0, .inr (5, [.ref mw, .int (bi im), .ref mt, .int (nI tl), .ref ml, .ref mz, .ref mi, .ref mr, .int (nI at0), .int (nI st0), .int (nI nu), .int (nI rm), .int (nI rh), .ref md, .ref mh])), (mw, .inl (cI, 480, .inl (nA (mdB Bw)))), (mr, .inl (cI, 6, .inl (nA (lkN Bw r 6 Rs))))] H := hP.sub [1, 2, 0] rfl
  have hD : va_D A [(m0, .inr (5, [.ref mw, .int (bi im), .ref mt, .int (nI tl), .ref ml, .ref mz, .ref mi, .ref mr, .int (nI at0), .int (nI st0), .int (nI nu), .int (nI rm), .int (nI rh), .ref md, .ref mh])), (mw, .inl (cI, 480, .inl (nA (mdB Bw)))), (mr, .inl (cI, 6, .inl (nA (lkN Bw r 6 Rs))))] := hD.sub [1, 2, 0] (by decide) rfl
  refine lv_aload_n hx hb dX5_lay_35 rfl (lv_at hl 1 rfl) ?_
  refine lv_iload_n hx hb dX5_lay_36 rfl (lv_at hl 2 rfl) ?_
  refine lv_iload_n hx hb dX5_lay_37 rfl (lv_at hl 3 rfl) ?_
  refine rw_callv (va_runV (As := [.int (nI r), .int (nI v)]) (rest := []) ⟨hx, hb, hml, hown, hts⟩ (c_X5_lays l dC dI cI cJ cS _ m0 mw mt ml mz mi mr md mh im tl at0 st0 nu rm rh (mdB Bw) r v (mOk_md hm) (by first | assumption | omega) (by first | assumption | omega)) (cwV 2 hts gX5_lay_X5_lays rfl rfl rfl (by decide +kernel) ⟨Nat.le_of_ble_eq_true rfl, Nat.le_of_ble_eq_true rfl⟩) (rw_preV hKK (hP.sub [0, 1] rfl) (hD.sub [0, 1] (by decide) rfl) rfl rfl) rfl rfl hl.1 rfl (lv_room (Nat.le_of_ble_eq_true rfl)) dX5_lay_38 ⟨Nat.zero_le _, Nat.zero_le _⟩) (wr := [(mr, .inl (cI, 6, .inl (nA (lkN Bw r 6 Rs))))]) hP hD hS hA [0, 1] [2] rfl rfl (by decide) (by decide) (fun H locs hP hD hS => ?_)
  have hP : va_P (dC, dI) vwCl [(m0, .inr (5, [.ref mw, .int (bi im), .ref mt, .int (nI tl), .ref ml, .ref mz, .ref mi, .ref mr, .int (nI at0), .int (nI st0), .int (nI nu), .int (nI rm), .int (nI rh), .ref md, .ref mh])), (mw, .inl (cI, 480, .inl (nA (rwB r (fun k => v % wdB (mdB Bw) k) ((mdB Bw) 0) (mdB Bw))))), (mr, .inl (cI, 6, .inl (nA (lkN Bw r 6 Rs))))] H := hP.sub [1, 2, 0] rfl
  have hD : va_D A [(m0, .inr (5, [.ref mw, .int (bi im), .ref mt, .int (nI tl), .ref ml, .ref mz, .ref mi, .ref mr, .int (nI at0), .int (nI st0), .int (nI nu), .int (nI rm), .int (nI rh), .ref md, .ref mh])), (mw, .inl (cI, 480, .inl (nA (rwB r (fun k => v % wdB (mdB Bw) k) ((mdB Bw) 0) (mdB Bw))))), (mr, .inl (cI, 6, .inl (nA (lkN Bw r 6 Rs))))] := hD.sub [1, 2, 0] (by decide) rfl
  have ec : nA (rwB r (fun k => v % wdB (mdB Bw) k) ((mdB Bw) 0) (mdB Bw)) = nA (rwB r (fun k => v % wdB Bw k) (Bw 0) (mdB Bw)) := md_ly hm.n r v
  rw [ec] at hP hD
  have hP : va_P (dC, dI) vwCl [(m0, .inr (5, [.ref mw, .int (bi im), .ref mt, .int (nI tl), .ref ml, .ref mz, .ref mi, .ref mr, .int (nI at0), .int (nI st0), .int (nI nu), .int (nI rm), .int (nI rh), .ref md, .ref mh])), (mw, .inl (cI, 480, .inl (nA (rwB r (fun k => v % wdB Bw k) (Bw 0) (mdB Bw))))), (mr, .inl (cI, 6, .inl (nA (lkN Bw r 6 Rs))))] H := hP
  have hD : va_D A [(m0, .inr (5, [.ref mw, .int (bi im), .ref mt, .int (nI tl), .ref ml, .ref mz, .ref mi, .ref mr, .int (nI at0), .int (nI st0), .int (nI nu), .int (nI rm), .int (nI rh), .ref md, .ref mh])), (mw, .inl (cI, 480, .inl (nA (rwB r (fun k => v % wdB Bw k) (Bw 0) (mdB Bw))))), (mr, .inl (cI, 6, .inl (nA (lkN Bw r 6 Rs))))] := hD
  refine lv_iload_n hx hb dX5_lay_41 rfl (lv_at hl 0 rfl) ?_
  exact rr_iretWs (u := (lkN Bw r 6 Rs)) hx hb hr hlocks dX5_lay_42 hP hD hS (rfl)
set_option maxHeartbeats 4000000 in
set_option maxRecDepth 100000 in
theorem c_X5_lay_b (l : Launch) (dC : Nat → ClassId) (dI : Nat → Nat → Nat) (cI cJ cS : ClassId) (m0 mw mt ml mz mi mr md mh : Nat) (im : Bool) (tl at0 st0 nu rm rh : Nat) (Bw : Nat → Nat) (x y : Int32) (hm : mOk Bw) (hbad : (inb x 4 && inb y (spB Bw)) = false) : Met l yX5_lay wsX5_lay ({ frames := 2, cells := 0, slots := 0, locals := 45 }) (va_Pc [.ref m0, .int x, .int y] (rB (dC, dI) vwCl [(m0, .inr (5, [.ref mw, .int (bi im), .ref mt, .int (nI tl), .ref ml, .ref mz, .ref mi, .ref mr, .int (nI at0), .int (nI st0), .int (nI nu), .int (nI rm), .int (nI rh), .ref md, .ref mh])), (mw, .inl (cI, 480, .inl (nA Bw)))] (tyz cI cJ cS))) (QcRead (-1)) 0 0 (fun _ => False) := by
  refine Met.ofW (cc := cX5_lay) (maxL := 4) (ret := (some .int)) (by decide) rfl ?_
  intro p e s m args below meth c s₁ B hml hv
  obtain ⟨rfl, hP, hKK⟩ := hv
  have hK := hKK.1
  have hx := B.exec
  have hb := B.bytes
  have hr := B.returns
  have hts := atoms_spec (ws := wsX5_lay) B.pre
  have hown : s.vm.findClass RX5 = some m.cls := findClass_of_methodNamed B.named
  have hlocks := B.notSynchronized
  have hl := lv_entry ([.ref m0, .int x, .int y]) (n := 4) (Nat.le_of_ble_eq_true rfl)
  rw [lg_entry_eq]
  generalize (lg_sl ([.ref m0, .int x, .int y]) ++ List.replicate (4 - (lg_sl ([.ref m0, .int x, .int y])).length) Slot.unset).toArray = ls at hl ⊢
  have hl : lv_has ls 4 [(0, .ref m0), (1, .int x), (2, .int y)] := hl
  have hn6 := hm.n
  have hsb := spB_b hm
  refine lv_iload_n hx hb dX5_lay_0 rfl (lv_at hl 1 rfl) ?_
  refine rr_callR (va_runS (As := [.int x]) (rest := []) ⟨hx, hb, hml, hown, hts⟩ (c_X5_isRegister l x ) (va_cwS 1 hts gX5_lay_X5_isRegister rfl rfl rfl (by decide +kernel) ⟨Nat.le_of_ble_eq_true rfl, Nat.le_of_ble_eq_true rfl⟩) rr_preT rfl rfl hl.1 rfl (lv_room (Nat.le_of_ble_eq_true rfl)) dX5_lay_1 ⟨Nat.zero_le _, Nat.zero_le _⟩) ?_
  refine rb_if_eq (tgt := 23) hx hb dX5_lay_4 (by decide) (fun c4 => ?_) (fun c4 => ?_)
  · skip
    refine lv_iconst (v := (-1)) hx hb dX5_lay_23 (by decide) ?_
    exact rr_iret hx hb hr hlocks dX5_lay_24 (rfl)
  refine lv_iload_n hx hb dX5_lay_7 rfl (lv_at hl 2 rfl) ?_
  refine lv_i2l hx hb dX5_lay_8 rfl ?_
  refine lv_lconst (v := 0) hx hb dX5_lay_9 (by decide) ?_
  refine lv_aload_n hx hb dX5_lay_10 rfl (lv_at hl 0 rfl) ?_
  refine rr_callR (va_runV (As := []) (rest := [.long 0, .long y.toInt64]) ⟨hx, hb, hml, hown, hts⟩ (c_X5_span l dC dI cI cJ cS m0 mw mt ml mz mi mr md mh im tl at0 st0 nu rm rh Bw (by first | assumption | omega)) (cwV 0 hts gX5_lay_X5_span rfl rfl rfl (by decide +kernel) ⟨Nat.le_of_ble_eq_true rfl, Nat.le_of_ble_eq_true rfl⟩) (rr_preV hKK hP rfl rfl) rfl rfl hl.1 rfl (lv_room (Nat.le_of_ble_eq_true rfl)) dX5_lay_11 ⟨Nat.zero_le _, Nat.zero_le _⟩) ?_
  refine lv_iconst (v := (nI 1)) hx hb dX5_lay_14 (by decide) ?_
  refine lv_isub hx hb dX5_lay_15 ?_
  refine lv_i2l hx hb dX5_lay_16 rfl ?_
  refine rr_callR (va_runS (As := [.long y.toInt64, .long 0, .long (((nI (spB Bw)) - (nI 1)).toInt64)]) (rest := []) ⟨hx, hb, hml, hown, hts⟩ (c_X5_in l y.toInt64 0 (((nI (spB Bw)) - (nI 1)).toInt64) ) (va_cwS 3 hts gX5_lay_X5_in rfl rfl rfl (by decide +kernel) ⟨Nat.le_of_ble_eq_true rfl, Nat.le_of_ble_eq_true rfl⟩) rr_preT rfl rfl hl.1 rfl (lv_room (Nat.le_of_ble_eq_true rfl)) dX5_lay_17 ⟨Nat.zero_le _, Nat.zero_le _⟩) ?_
  refine rr_top (y := bi (inb y (spB Bw))) (congrArg bi (inL_inb (by omega))) ?_
  refine rb_if_ne (tgt := 25) hx hb dX5_lay_20 (by decide) (fun c20 => ?_) (fun c20 => ?_)
  · skip
    exact absurd hbad (by rw [c4, c20]; decide)
  refine lv_iconst (v := (-1)) hx hb dX5_lay_23 (by decide) ?_
  exact rr_iret hx hb hr hlocks dX5_lay_24 (rfl)
set_option maxHeartbeats 4000000 in
set_option maxRecDepth 100000 in
theorem c_X5_add_g (l : Launch) (dC : Nat → ClassId) (dI : Nat → Nat → Nat) (cI cJ cS : ClassId) (sz : Nat) (m0 mw mt ml mz mi mr md mh : Nat) (im : Bool) (tl at0 st0 nu rm rh : Nat) (Bw Rs : Nat → Nat) (r o : Nat) (hm : mOk Bw) (hr4 : r < 4) (ho4 : o < 4) : Met l yX5_add wsX5_add ({ frames := 5, cells := 0, slots := 0, locals := 114 }) (va_Pc [.ref m0, .int (nI r), .int (nI o)] (rW (dC, dI) vwCl [(m0, .inr (5, [.ref mw, .int (bi im), .ref mt, .int (nI tl), .ref ml, .ref mz, .ref mi, .ref mr, .int (nI at0), .int (nI st0), .int (nI nu), .int (nI rm), .int (nI rh), .ref md, .ref mh])), (mw, .inl (cI, 480, .inl (nA Bw))), (mr, .inl (cI, 6, .inl (nA Rs)))] (tyz cI cJ cS) sz)) (qIs (nI (VB (rwB r (adF (kdB Bw) (wdB Bw) (rsB Bw) r o) (Bw 0) (mdB Bw)) r)) (dC, dI) vwCl (fun Rq => [(m0, .inr (5, [.ref mw, .int (bi im), .ref mt, .int (nI tl), .ref ml, .ref mz, .ref mi, .ref mr, .int (nI at0), .int (nI st0), .int (nI nu), .int (nI rm), .int (nI rh), .ref md, .ref mh])), (mw, .inl (cI, 480, .inl (nA (rwB r (adF (kdB Bw) (wdB Bw) (rsB Bw) r o) (Bw 0) (mdB Bw))))), (mr, .inl (cI, 6, .inl (nA Rq)))]) (va_A [(m0, .inr (5, [.ref mw, .int (bi im), .ref mt, .int (nI tl), .ref ml, .ref mz, .ref mi, .ref mr, .int (nI at0), .int (nI st0), .int (nI nu), .int (nI rm), .int (nI rh), .ref md, .ref mh])), (mw, .inl (cI, 480, .inl (nA Bw))), (mr, .inl (cI, 6, .inl (nA Rs)))] sz)) 0 0 (va_A [(m0, .inr (5, [.ref mw, .int (bi im), .ref mt, .int (nI tl), .ref ml, .ref mz, .ref mi, .ref mr, .int (nI at0), .int (nI st0), .int (nI nu), .int (nI rm), .int (nI rh), .ref md, .ref mh])), (mw, .inl (cI, 480, .inl (nA Bw))), (mr, .inl (cI, 6, .inl (nA Rs)))] sz) := by
  refine Met.ofW (cc := cX5_add) (maxL := 3) (ret := (some .int)) (by decide) rfl ?_
  intro p e s m args below meth c s₁ B hml hv
  obtain ⟨rfl, hsz, hP, hKK, hD0⟩ := hv
  have hK := hKK.1
  have hx := B.exec
  have hb := B.bytes
  have hr := B.returns
  have hts := atoms_spec (ws := wsX5_add) B.pre
  have hown : s.vm.findClass RX5 = some m.cls := findClass_of_methodNamed B.named
  have hlocks := B.notSynchronized
  subst hsz
  have hD := hD0.self (sz := s.heap.size)
  generalize hAe : va_A [(m0, .inr (5, [.ref mw, .int (bi im), .ref mt, .int (nI tl), .ref ml, .ref mz, .ref mi, .ref mr, .int (nI at0), .int (nI st0), .int (nI nu), .int (nI rm), .int (nI rh), .ref md, .ref mh])), (mw, .inl (cI, 480, .inl (nA Bw))), (mr, .inl (cI, 6, .inl (nA Rs)))] s.heap.size = A at hD ⊢
  have hA : ∀ q : Nat, s.heap.size ≤ q → A q := fun q h => by rw [← hAe]; exact Or.inr h
  have hS : va_S A s.heap s.heap [] := va_S.rf
  have hP : va_P (dC, dI) vwCl [(m0, .inr (5, [.ref mw, .int (bi im), .ref mt, .int (nI tl), .ref ml, .ref mz, .ref mi, .ref mr, .int (nI at0), .int (nI st0), .int (nI nu), .int (nI rm), .int (nI rh), .ref md, .ref mh])), (mw, .inl (cI, 480, .inl (nA Bw))), (mr, .inl (cI, 6, .inl (nA Rs)))] s.heap := hP
  have hl := lv_entry ([.ref m0, .int (nI r), .int (nI o)]) (n := 3) (Nat.le_of_ble_eq_true rfl)
  rw [lg_entry_eq]
  generalize (lg_sl ([.ref m0, .int (nI r), .int (nI o)]) ++ List.replicate (3 - (lg_sl ([.ref m0, .int (nI r), .int (nI o)])).length) Slot.unset).toArray = ls at hl ⊢
  have hl : lv_has ls 3 [(0, .ref m0), (1, .int (nI r)), (2, .int (nI o))] := hl
  have hn6 := hm.n
  refine lv_iload_n hx hb dX5_add_0 rfl (lv_at hl 1 rfl) ?_
  refine rr_callR (va_runS (As := [.int (nI r)]) (rest := []) ⟨hx, hb, hml, hown, hts⟩ (c_X5_isRegister l (nI r) ) (va_cwS 1 hts gX5_add_X5_isRegister rfl rfl rfl (by decide +kernel) ⟨Nat.le_of_ble_eq_true rfl, Nat.le_of_ble_eq_true rfl⟩) rr_preT rfl rfl hl.1 rfl (lv_room (Nat.le_of_ble_eq_true rfl)) dX5_add_1 ⟨Nat.zero_le _, Nat.zero_le _⟩) ?_
  refine rr_top (y := bi true) (congrArg bi (inb_lt (by omega) (by omega))) ?_
  refine rb_if_eq (tgt := 14) hx hb dX5_add_4 (by decide) (fun c4 => ?_) (fun c4 => ?_)
  · exact absurd c4 (by decide)
  refine lv_iload_n hx hb dX5_add_7 rfl (lv_at hl 2 rfl) ?_
  refine rr_callR (va_runS (As := [.int (nI o)]) (rest := []) ⟨hx, hb, hml, hown, hts⟩ (c_X5_isRegister l (nI o) ) (va_cwS 1 hts gX5_add_X5_isRegister rfl rfl rfl (by decide +kernel) ⟨Nat.le_of_ble_eq_true rfl, Nat.le_of_ble_eq_true rfl⟩) rr_preT rfl rfl hl.1 rfl (lv_room (Nat.le_of_ble_eq_true rfl)) dX5_add_8 ⟨Nat.zero_le _, Nat.zero_le _⟩) ?_
  refine rr_top (y := bi true) (congrArg bi (inb_lt (by omega) (by omega))) ?_
  refine rb_if_ne (tgt := 16) hx hb dX5_add_11 (by decide) (fun c11 => ?_) (fun c11 => ?_)
  rotate_left
  · exact absurd c11 (by decide)
  refine lv_aload_n hx hb dX5_add_16 rfl (lv_at hl 0 rfl) ?_
  refine rw_callv (va_runV (As := []) (rest := []) ⟨hx, hb, hml, hown, hts⟩ (c_X5_minds l dC dI cI cJ cS _ m0 mw mt ml mz mi mr md mh im tl at0 st0 nu rm rh Bw (hm.2.2.2.1)) (cwV 0 hts gX5_add_X5_minds rfl rfl rfl (by decide +kernel) ⟨Nat.le_of_ble_eq_true rfl, Nat.le_of_ble_eq_true rfl⟩) (rw_preV hKK (hP.sub [0, 1] rfl) (hD.sub [0, 1] (by decide) rfl) rfl rfl) rfl rfl hl.1 rfl (lv_room (Nat.le_of_ble_eq_true rfl)) dX5_add_17 ⟨Nat.zero_le _, Nat.zero_le _⟩) (wr := [(mr, .inl (cI, 6, .inl (nA Rs)))]) hP hD hS hA [0, 1] [2] rfl rfl (by decide) (by decide) (fun H locs hP hD hS => ?_)
  have hP : va_P (dC, dI) vwCl [(m0, .inr (5, [.ref mw, .int (bi im), .ref mt, .int (nI tl), .ref ml, .ref mz, .ref mi, .ref mr, .int (nI at0), .int (nI st0), .int (nI nu), .int (nI rm), .int (nI rh), .ref md, .ref mh])), (mw, .inl (cI, 480, .inl (nA (mdB Bw)))), (mr, .inl (cI, 6, .inl (nA Rs)))] H := hP.sub [1, 2, 0] rfl
  have hD : va_D A [(m0, .inr (5, [.ref mw, .int (bi im), .ref mt, .int (nI tl), .ref ml, .ref mz, .ref mi, .ref mr, .int (nI at0), .int (nI st0), .int (nI nu), .int (nI rm), .int (nI rh), .ref md, .ref mh])), (mw, .inl (cI, 480, .inl (nA (mdB Bw)))), (mr, .inl (cI, 6, .inl (nA Rs)))] := hD.sub [1, 2, 0] (by decide) rfl
  refine lv_aload_n hx hb dX5_add_20 rfl (lv_at hl 0 rfl) ?_
  refine lv_iload_n hx hb dX5_add_21 rfl (lv_at hl 1 rfl) ?_
  refine lv_iload_n hx hb dX5_add_22 rfl (lv_at hl 2 rfl) ?_
  refine rw_callv (va_runV (As := [.int (nI r), .int (nI o)]) (rest := []) ⟨hx, hb, hml, hown, hts⟩ (c_X5_adds l dC dI cI cJ cS _ m0 mw mt ml mz mi mr md mh im tl at0 st0 nu rm rh (mdB Bw) r o (mOk_md hm) (by first | assumption | omega) (by first | assumption | omega)) (cwV 2 hts gX5_add_X5_adds rfl rfl rfl (by decide +kernel) ⟨Nat.le_of_ble_eq_true rfl, Nat.le_of_ble_eq_true rfl⟩) (rw_preV hKK (hP.sub [0, 1] rfl) (hD.sub [0, 1] (by decide) rfl) rfl rfl) rfl rfl hl.1 rfl (lv_room (Nat.le_of_ble_eq_true rfl)) dX5_add_23 ⟨Nat.zero_le _, Nat.zero_le _⟩) (wr := [(mr, .inl (cI, 6, .inl (nA Rs)))]) hP hD hS hA [0, 1] [2] rfl rfl (by decide) (by decide) (fun H locs hP hD hS => ?_)
  have hP : va_P (dC, dI) vwCl [(m0, .inr (5, [.ref mw, .int (bi im), .ref mt, .int (nI tl), .ref ml, .ref mz, .ref mi, .ref mr, .int (nI at0), .int (nI st0), .int (nI nu), .int (nI rm), .int (nI rh), .ref md, .ref mh])), (mw, .inl (cI, 480, .inl (nA (rwB r (adF (kdB (mdB Bw)) (wdB (mdB Bw)) (rsB (mdB Bw)) r o) ((mdB Bw) 0) (mdB Bw))))), (mr, .inl (cI, 6, .inl (nA Rs)))] H := hP.sub [1, 2, 0] rfl
  have hD : va_D A [(m0, .inr (5, [.ref mw, .int (bi im), .ref mt, .int (nI tl), .ref ml, .ref mz, .ref mi, .ref mr, .int (nI at0), .int (nI st0), .int (nI nu), .int (nI rm), .int (nI rh), .ref md, .ref mh])), (mw, .inl (cI, 480, .inl (nA (rwB r (adF (kdB (mdB Bw)) (wdB (mdB Bw)) (rsB (mdB Bw)) r o) ((mdB Bw) 0) (mdB Bw))))), (mr, .inl (cI, 6, .inl (nA Rs)))] := hD.sub [1, 2, 0] (by decide) rfl
  have ec : nA (rwB r (adF (kdB (mdB Bw)) (wdB (mdB Bw)) (rsB (mdB Bw)) r o) ((mdB Bw) 0) (mdB Bw)) = nA (rwB r (adF (kdB Bw) (wdB Bw) (rsB Bw) r o) (Bw 0) (mdB Bw)) := md_ad hm.n hr4 ho4
  rw [ec] at hP hD
  have hP : va_P (dC, dI) vwCl [(m0, .inr (5, [.ref mw, .int (bi im), .ref mt, .int (nI tl), .ref ml, .ref mz, .ref mi, .ref mr, .int (nI at0), .int (nI st0), .int (nI nu), .int (nI rm), .int (nI rh), .ref md, .ref mh])), (mw, .inl (cI, 480, .inl (nA (rwB r (adF (kdB Bw) (wdB Bw) (rsB Bw) r o) (Bw 0) (mdB Bw))))), (mr, .inl (cI, 6, .inl (nA Rs)))] H := hP
  have hD : va_D A [(m0, .inr (5, [.ref mw, .int (bi im), .ref mt, .int (nI tl), .ref ml, .ref mz, .ref mi, .ref mr, .int (nI at0), .int (nI st0), .int (nI nu), .int (nI rm), .int (nI rh), .ref md, .ref mh])), (mw, .inl (cI, 480, .inl (nA (rwB r (adF (kdB Bw) (wdB Bw) (rsB Bw) r o) (Bw 0) (mdB Bw))))), (mr, .inl (cI, 6, .inl (nA Rs)))] := hD
  have hmC : mOk (rwB r (adF (kdB Bw) (wdB Bw) (rsB Bw) r o) (Bw 0) (mdB Bw)) := mOk_op hm hr4 hm.n (fun k hk hk0 => adF_lt hm.rs hr4 ho4 k hk)
  refine lv_aload_n hx hb dX5_add_26 rfl (lv_at hl 0 rfl) ?_
  refine lv_iload_n hx hb dX5_add_27 rfl (lv_at hl 1 rfl) ?_
  refine rw_calli (va_runV (As := [.int (nI r)]) (rest := []) ⟨hx, hb, hml, hown, hts⟩ (c_X5_value l dC dI cI cJ cS _ m0 mw mt ml mz mi mr md mh im tl at0 st0 nu rm rh (rwB r (adF (kdB Bw) (wdB Bw) (rsB Bw) r o) (Bw 0) (mdB Bw)) Rs r (hmC) (by first | assumption | omega)) (cwV 1 hts gX5_add_X5_value rfl rfl rfl (by decide +kernel) ⟨Nat.le_of_ble_eq_true rfl, Nat.le_of_ble_eq_true rfl⟩) (rw_preV hKK hP hD rfl rfl) rfl rfl hl.1 rfl (lv_room (Nat.le_of_ble_eq_true rfl)) dX5_add_28 ⟨Nat.zero_le _, Nat.zero_le _⟩) (wr := []) hP hD hS hA [0, 1, 2] [] rfl rfl (by decide) (by decide) (fun H locs hP hD hS => ?_)
  have hP : va_P (dC, dI) vwCl [(m0, .inr (5, [.ref mw, .int (bi im), .ref mt, .int (nI tl), .ref ml, .ref mz, .ref mi, .ref mr, .int (nI at0), .int (nI st0), .int (nI nu), .int (nI rm), .int (nI rh), .ref md, .ref mh])), (mw, .inl (cI, 480, .inl (nA (rwB r (adF (kdB Bw) (wdB Bw) (rsB Bw) r o) (Bw 0) (mdB Bw))))), (mr, .inl (cI, 6, .inl (nA (lkN (rwB r (adF (kdB Bw) (wdB Bw) (rsB Bw) r o) (Bw 0) (mdB Bw)) r 6 Rs))))] H := hP.sub [0, 1, 2] rfl
  have hD : va_D A [(m0, .inr (5, [.ref mw, .int (bi im), .ref mt, .int (nI tl), .ref ml, .ref mz, .ref mi, .ref mr, .int (nI at0), .int (nI st0), .int (nI nu), .int (nI rm), .int (nI rh), .ref md, .ref mh])), (mw, .inl (cI, 480, .inl (nA (rwB r (adF (kdB Bw) (wdB Bw) (rsB Bw) r o) (Bw 0) (mdB Bw))))), (mr, .inl (cI, 6, .inl (nA (lkN (rwB r (adF (kdB Bw) (wdB Bw) (rsB Bw) r o) (Bw 0) (mdB Bw)) r 6 Rs))))] := hD.sub [0, 1, 2] (by decide) rfl
  exact rr_iretWs (u := (lkN (rwB r (adF (kdB Bw) (wdB Bw) (rsB Bw) r o) (Bw 0) (mdB Bw)) r 6 Rs)) hx hb hr hlocks dX5_add_31 hP hD hS (rfl)
set_option maxHeartbeats 4000000 in
set_option maxRecDepth 100000 in
theorem c_X5_add_b (l : Launch) (dC : Nat → ClassId) (dI : Nat → Nat → Nat) (cI cJ cS : ClassId) (m0 mw mt ml mz mi mr md mh : Nat) (im : Bool) (tl at0 st0 nu rm rh : Nat) (Bw : Nat → Nat) (x y : Int32) (hm : mOk Bw) (hbad : (inb x 4 && inb y 4) = false) : Met l yX5_add wsX5_add ({ frames := 5, cells := 0, slots := 0, locals := 114 }) (va_Pc [.ref m0, .int x, .int y] (rB (dC, dI) vwCl [(m0, .inr (5, [.ref mw, .int (bi im), .ref mt, .int (nI tl), .ref ml, .ref mz, .ref mi, .ref mr, .int (nI at0), .int (nI st0), .int (nI nu), .int (nI rm), .int (nI rh), .ref md, .ref mh])), (mw, .inl (cI, 480, .inl (nA Bw)))] (tyz cI cJ cS))) (QcRead (-1)) 0 0 (fun _ => False) := by
  refine Met.ofW (cc := cX5_add) (maxL := 3) (ret := (some .int)) (by decide) rfl ?_
  intro p e s m args below meth c s₁ B hml hv
  obtain ⟨rfl, hP, hKK⟩ := hv
  have hK := hKK.1
  have hx := B.exec
  have hb := B.bytes
  have hr := B.returns
  have hts := atoms_spec (ws := wsX5_add) B.pre
  have hown : s.vm.findClass RX5 = some m.cls := findClass_of_methodNamed B.named
  have hlocks := B.notSynchronized
  have hl := lv_entry ([.ref m0, .int x, .int y]) (n := 3) (Nat.le_of_ble_eq_true rfl)
  rw [lg_entry_eq]
  generalize (lg_sl ([.ref m0, .int x, .int y]) ++ List.replicate (3 - (lg_sl ([.ref m0, .int x, .int y])).length) Slot.unset).toArray = ls at hl ⊢
  have hl : lv_has ls 3 [(0, .ref m0), (1, .int x), (2, .int y)] := hl
  have hn6 := hm.n
  refine lv_iload_n hx hb dX5_add_0 rfl (lv_at hl 1 rfl) ?_
  refine rr_callR (va_runS (As := [.int x]) (rest := []) ⟨hx, hb, hml, hown, hts⟩ (c_X5_isRegister l x ) (va_cwS 1 hts gX5_add_X5_isRegister rfl rfl rfl (by decide +kernel) ⟨Nat.le_of_ble_eq_true rfl, Nat.le_of_ble_eq_true rfl⟩) rr_preT rfl rfl hl.1 rfl (lv_room (Nat.le_of_ble_eq_true rfl)) dX5_add_1 ⟨Nat.zero_le _, Nat.zero_le _⟩) ?_
  refine rb_if_eq (tgt := 14) hx hb dX5_add_4 (by decide) (fun c4 => ?_) (fun c4 => ?_)
  · skip
    refine lv_iconst (v := (-1)) hx hb dX5_add_14 (by decide) ?_
    exact rr_iret hx hb hr hlocks dX5_add_15 (rfl)
  refine lv_iload_n hx hb dX5_add_7 rfl (lv_at hl 2 rfl) ?_
  refine rr_callR (va_runS (As := [.int y]) (rest := []) ⟨hx, hb, hml, hown, hts⟩ (c_X5_isRegister l y ) (va_cwS 1 hts gX5_add_X5_isRegister rfl rfl rfl (by decide +kernel) ⟨Nat.le_of_ble_eq_true rfl, Nat.le_of_ble_eq_true rfl⟩) rr_preT rfl rfl hl.1 rfl (lv_room (Nat.le_of_ble_eq_true rfl)) dX5_add_8 ⟨Nat.zero_le _, Nat.zero_le _⟩) ?_
  refine rb_if_ne (tgt := 16) hx hb dX5_add_11 (by decide) (fun c11 => ?_) (fun c11 => ?_)
  · skip
    exact absurd hbad (by rw [c4, c11]; decide)
  refine lv_iconst (v := (-1)) hx hb dX5_add_14 (by decide) ?_
  exact rr_iret hx hb hr hlocks dX5_add_15 (rfl)
set_option maxHeartbeats 4000000 in
set_option maxRecDepth 100000 in
theorem c_X5_times_g (l : Launch) (dC : Nat → ClassId) (dI : Nat → Nat → Nat) (cI cJ cS : ClassId) (sz : Nat) (m0 mw mt ml mz mi mr md mh : Nat) (im : Bool) (tl at0 st0 nu rm rh : Nat) (Bw Rs : Nat → Nat) (r o : Nat) (hm : mOk Bw) (hr4 : r < 4) (ho4 : o < 4) : Met l yX5_times wsX5_times ({ frames := 5, cells := 0, slots := 0, locals := 116 }) (va_Pc [.ref m0, .int (nI r), .int (nI o)] (rW (dC, dI) vwCl [(m0, .inr (5, [.ref mw, .int (bi im), .ref mt, .int (nI tl), .ref ml, .ref mz, .ref mi, .ref mr, .int (nI at0), .int (nI st0), .int (nI nu), .int (nI rm), .int (nI rh), .ref md, .ref mh])), (mw, .inl (cI, 480, .inl (nA Bw))), (mr, .inl (cI, 6, .inl (nA Rs)))] (tyz cI cJ cS) sz)) (qIs (nI (VB (rwB r (muF (kdB Bw) (wdB Bw) (rsB Bw) r o) (Bw 0) (mdB Bw)) r)) (dC, dI) vwCl (fun Rq => [(m0, .inr (5, [.ref mw, .int (bi im), .ref mt, .int (nI tl), .ref ml, .ref mz, .ref mi, .ref mr, .int (nI at0), .int (nI st0), .int (nI nu), .int (nI rm), .int (nI rh), .ref md, .ref mh])), (mw, .inl (cI, 480, .inl (nA (rwB r (muF (kdB Bw) (wdB Bw) (rsB Bw) r o) (Bw 0) (mdB Bw))))), (mr, .inl (cI, 6, .inl (nA Rq)))]) (va_A [(m0, .inr (5, [.ref mw, .int (bi im), .ref mt, .int (nI tl), .ref ml, .ref mz, .ref mi, .ref mr, .int (nI at0), .int (nI st0), .int (nI nu), .int (nI rm), .int (nI rh), .ref md, .ref mh])), (mw, .inl (cI, 480, .inl (nA Bw))), (mr, .inl (cI, 6, .inl (nA Rs)))] sz)) 0 0 (va_A [(m0, .inr (5, [.ref mw, .int (bi im), .ref mt, .int (nI tl), .ref ml, .ref mz, .ref mi, .ref mr, .int (nI at0), .int (nI st0), .int (nI nu), .int (nI rm), .int (nI rh), .ref md, .ref mh])), (mw, .inl (cI, 480, .inl (nA Bw))), (mr, .inl (cI, 6, .inl (nA Rs)))] sz) := by
  refine Met.ofW (cc := cX5_times) (maxL := 4) (ret := (some .int)) (by decide) rfl ?_
  intro p e s m args below meth c s₁ B hml hv
  obtain ⟨rfl, hsz, hP, hKK, hD0⟩ := hv
  have hK := hKK.1
  have hx := B.exec
  have hb := B.bytes
  have hr := B.returns
  have hts := atoms_spec (ws := wsX5_times) B.pre
  have hown : s.vm.findClass RX5 = some m.cls := findClass_of_methodNamed B.named
  have hlocks := B.notSynchronized
  subst hsz
  have hD := hD0.self (sz := s.heap.size)
  generalize hAe : va_A [(m0, .inr (5, [.ref mw, .int (bi im), .ref mt, .int (nI tl), .ref ml, .ref mz, .ref mi, .ref mr, .int (nI at0), .int (nI st0), .int (nI nu), .int (nI rm), .int (nI rh), .ref md, .ref mh])), (mw, .inl (cI, 480, .inl (nA Bw))), (mr, .inl (cI, 6, .inl (nA Rs)))] s.heap.size = A at hD ⊢
  have hA : ∀ q : Nat, s.heap.size ≤ q → A q := fun q h => by rw [← hAe]; exact Or.inr h
  have hS : va_S A s.heap s.heap [] := va_S.rf
  have hP : va_P (dC, dI) vwCl [(m0, .inr (5, [.ref mw, .int (bi im), .ref mt, .int (nI tl), .ref ml, .ref mz, .ref mi, .ref mr, .int (nI at0), .int (nI st0), .int (nI nu), .int (nI rm), .int (nI rh), .ref md, .ref mh])), (mw, .inl (cI, 480, .inl (nA Bw))), (mr, .inl (cI, 6, .inl (nA Rs)))] s.heap := hP
  have hiX5 : ∀ w ∈ wsX50, w ∈ wsX5_times := by decide +kernel
  have hl := lv_entry ([.ref m0, .int (nI r), .int (nI o)]) (n := 4) (Nat.le_of_ble_eq_true rfl)
  rw [lg_entry_eq]
  generalize (lg_sl ([.ref m0, .int (nI r), .int (nI o)]) ++ List.replicate (4 - (lg_sl ([.ref m0, .int (nI r), .int (nI o)])).length) Slot.unset).toArray = ls at hl ⊢
  have hl : lv_has ls 4 [(0, .ref m0), (1, .int (nI r)), (2, .int (nI o))] := hl
  have hn6 := hm.n
  refine lv_iload_n hx hb dX5_times_0 rfl (lv_at hl 1 rfl) ?_
  refine rr_callR (va_runS (As := [.int (nI r)]) (rest := []) ⟨hx, hb, hml, hown, hts⟩ (c_X5_isRegister l (nI r) ) (va_cwS 1 hts gX5_times_X5_isRegister rfl rfl rfl (by decide +kernel) ⟨Nat.le_of_ble_eq_true rfl, Nat.le_of_ble_eq_true rfl⟩) rr_preT rfl rfl hl.1 rfl (lv_room (Nat.le_of_ble_eq_true rfl)) dX5_times_1 ⟨Nat.zero_le _, Nat.zero_le _⟩) ?_
  refine rr_top (y := bi true) (congrArg bi (inb_lt (by omega) (by omega))) ?_
  refine rb_if_eq (tgt := 14) hx hb dX5_times_4 (by decide) (fun c4 => ?_) (fun c4 => ?_)
  · exact absurd c4 (by decide)
  refine lv_iload_n hx hb dX5_times_7 rfl (lv_at hl 2 rfl) ?_
  refine rr_callR (va_runS (As := [.int (nI o)]) (rest := []) ⟨hx, hb, hml, hown, hts⟩ (c_X5_isRegister l (nI o) ) (va_cwS 1 hts gX5_times_X5_isRegister rfl rfl rfl (by decide +kernel) ⟨Nat.le_of_ble_eq_true rfl, Nat.le_of_ble_eq_true rfl⟩) rr_preT rfl rfl hl.1 rfl (lv_room (Nat.le_of_ble_eq_true rfl)) dX5_times_8 ⟨Nat.zero_le _, Nat.zero_le _⟩) ?_
  refine rr_top (y := bi true) (congrArg bi (inb_lt (by omega) (by omega))) ?_
  refine rb_if_ne (tgt := 16) hx hb dX5_times_11 (by decide) (fun c11 => ?_) (fun c11 => ?_)
  rotate_left
  · exact absurd c11 (by decide)
  refine lv_aload_n hx hb dX5_times_16 rfl (lv_at hl 0 rfl) ?_
  refine rw_callv (va_runV (As := []) (rest := []) ⟨hx, hb, hml, hown, hts⟩ (c_X5_minds l dC dI cI cJ cS _ m0 mw mt ml mz mi mr md mh im tl at0 st0 nu rm rh Bw (hm.2.2.2.1)) (cwV 0 hts gX5_times_X5_minds rfl rfl rfl (by decide +kernel) ⟨Nat.le_of_ble_eq_true rfl, Nat.le_of_ble_eq_true rfl⟩) (rw_preV hKK (hP.sub [0, 1] rfl) (hD.sub [0, 1] (by decide) rfl) rfl rfl) rfl rfl hl.1 rfl (lv_room (Nat.le_of_ble_eq_true rfl)) dX5_times_17 ⟨Nat.zero_le _, Nat.zero_le _⟩) (wr := [(mr, .inl (cI, 6, .inl (nA Rs)))]) hP hD hS hA [0, 1] [2] rfl rfl (by decide) (by decide) (fun H locs hP hD hS => ?_)
  have hP : va_P (dC, dI) vwCl [(m0, .inr (5, [.ref mw, .int (bi im), .ref mt, .int (nI tl), .ref ml, .ref mz, .ref mi, .ref mr, .int (nI at0), .int (nI st0), .int (nI nu), .int (nI rm), .int (nI rh), .ref md, .ref mh])), (mw, .inl (cI, 480, .inl (nA (mdB Bw)))), (mr, .inl (cI, 6, .inl (nA Rs)))] H := hP.sub [1, 2, 0] rfl
  have hD : va_D A [(m0, .inr (5, [.ref mw, .int (bi im), .ref mt, .int (nI tl), .ref ml, .ref mz, .ref mi, .ref mr, .int (nI at0), .int (nI st0), .int (nI nu), .int (nI rm), .int (nI rh), .ref md, .ref mh])), (mw, .inl (cI, 480, .inl (nA (mdB Bw)))), (mr, .inl (cI, 6, .inl (nA Rs)))] := hD.sub [1, 2, 0] (by decide) rfl
  refine lv_iconst (v := (nI 0)) hx hb dX5_times_20 (by decide) ?_
  refine lv_istore_n (lv' := [(3, .int (nI 0)), (0, .ref m0), (1, .int (nI r)), (2, .int (nI o))]) hx hb dX5_times_21 rfl hl (by decide) rfl (fun ls hl => ?_)
  have ec : nA (mdB Bw) = nA (rwB r (muF (kdB Bw) (wdB Bw) (rsB Bw) r o) 0 (mdB Bw)) := rwB_0 _ _ _
  rw [ec] at hP hD
  have hP : va_P (dC, dI) vwCl [(m0, .inr (5, [.ref mw, .int (bi im), .ref mt, .int (nI tl), .ref ml, .ref mz, .ref mi, .ref mr, .int (nI at0), .int (nI st0), .int (nI nu), .int (nI rm), .int (nI rh), .ref md, .ref mh])), (mw, .inl (cI, 480, .inl (nA (rwB r (muF (kdB Bw) (wdB Bw) (rsB Bw) r o) 0 (mdB Bw))))), (mr, .inl (cI, 6, .inl (nA Rs)))] H := hP
  have hD : va_D A [(m0, .inr (5, [.ref mw, .int (bi im), .ref mt, .int (nI tl), .ref ml, .ref mz, .ref mi, .ref mr, .int (nI at0), .int (nI st0), .int (nI nu), .int (nI rm), .int (nI rh), .ref md, .ref mh])), (mw, .inl (cI, 480, .inl (nA (rwB r (muF (kdB Bw) (wdB Bw) (rsB Bw) r o) 0 (mdB Bw))))), (mr, .inl (cI, 6, .inl (nA Rs)))] := hD
  refine rlW1 (A1 := Nat) (fun H locs ls => W p l e _ s m _ below meth c H locs 0 0 _ (F0 m 22 ls [])) (fun k H locs ls => k ≤ Bw 0 ∧ va_P (dC, dI) vwCl [(m0, .inr (5, [.ref mw, .int (bi im), .ref mt, .int (nI tl), .ref ml, .ref mz, .ref mi, .ref mr, .int (nI at0), .int (nI st0), .int (nI nu), .int (nI rm), .int (nI rh), .ref md, .ref mh])), (mw, .inl (cI, 480, .inl (nA (rwB r (muF (kdB Bw) (wdB Bw) (rsB Bw) r o) k (mdB Bw))))), (mr, .inl (cI, 6, .inl (nA Rs)))] H ∧ va_D A [(m0, .inr (5, [.ref mw, .int (bi im), .ref mt, .int (nI tl), .ref ml, .ref mz, .ref mi, .ref mr, .int (nI at0), .int (nI st0), .int (nI nu), .int (nI rm), .int (nI rh), .ref md, .ref mh])), (mw, .inl (cI, 480, .inl (nA (rwB r (muF (kdB Bw) (wdB Bw) (rsB Bw) r o) k (mdB Bw))))), (mr, .inl (cI, 6, .inl (nA Rs)))] ∧ va_S A s.heap H locs ∧ lv_has ls 4 [(3, .int (nI k)), (0, .ref m0), (1, .int (nI r)), (2, .int (nI o))]) (fun k => Bw 0 - k) ?_ 0 H locs ls ⟨by omega, hP, hD, hS, lv_sub hl [0, 1, 2, 3] rfl⟩
  rintro k H locs ls ⟨hi, hP, hD, hS, hl⟩ ih22
  refine lv_iload_n hx hb dX5_times_22 rfl (lv_at hl 0 rfl) ?_
  refine lv_aload_n hx hb dX5_times_23 rfl (lv_at hl 1 rfl) ?_
  refine va_get (D := (dC, dI)) (ci := 5) (v := .ref mw) (C := RX5) (T := TX5) (N := 15) hx hb hts hiX5 hown hK hP 0 rfl rfl 0 (by decide) (hts (.fieldLink RX5 7 "RestRegistersModel" "w" "[I") (by decide +kernel)) (fun _ h9 => h9) rfl dX5_times_24 ?_
  refine lv_iconst (v := (nI 0)) hx hb dX5_times_27 (by decide) ?_
  refine rn_iald hx hb hK hP 1 0 rfl rfl (i := 0) (by omega) (by decide) (v := (nI (Bw 0))) (congrArg nI ((rwB_lo (by omega)).trans (mdB_lo (by omega)))) dX5_times_28 ?_
  refine rn_icmp_ge (tgt := 85) hx hb dX5_times_29 (by decide) (by omega) (by omega) (fun c29 => ?_) (fun c29 => ?_)
  · skip
    have ek : k = Bw 0 := Nat.le_antisymm hi c29
    subst ek
    have hP : va_P (dC, dI) vwCl [(m0, .inr (5, [.ref mw, .int (bi im), .ref mt, .int (nI tl), .ref ml, .ref mz, .ref mi, .ref mr, .int (nI at0), .int (nI st0), .int (nI nu), .int (nI rm), .int (nI rh), .ref md, .ref mh])), (mw, .inl (cI, 480, .inl (nA (rwB r (muF (kdB Bw) (wdB Bw) (rsB Bw) r o) (Bw 0) (mdB Bw))))), (mr, .inl (cI, 6, .inl (nA Rs)))] H := hP
    have hD : va_D A [(m0, .inr (5, [.ref mw, .int (bi im), .ref mt, .int (nI tl), .ref ml, .ref mz, .ref mi, .ref mr, .int (nI at0), .int (nI st0), .int (nI nu), .int (nI rm), .int (nI rh), .ref md, .ref mh])), (mw, .inl (cI, 480, .inl (nA (rwB r (muF (kdB Bw) (wdB Bw) (rsB Bw) r o) (Bw 0) (mdB Bw))))), (mr, .inl (cI, 6, .inl (nA Rs)))] := hD
    have hmC : mOk (rwB r (muF (kdB Bw) (wdB Bw) (rsB Bw) r o) (Bw 0) (mdB Bw)) := mOk_op hm hr4 hm.n (fun k hk hk0 => muF_lt hm.rs hr4 k hk)
    refine lv_aload_n hx hb dX5_times_85 rfl (lv_at hl 1 rfl) ?_
    refine lv_iload_n hx hb dX5_times_86 rfl (lv_at hl 2 rfl) ?_
    refine rw_calli (va_runV (As := [.int (nI r)]) (rest := []) ⟨hx, hb, hml, hown, hts⟩ (c_X5_value l dC dI cI cJ cS _ m0 mw mt ml mz mi mr md mh im tl at0 st0 nu rm rh (rwB r (muF (kdB Bw) (wdB Bw) (rsB Bw) r o) (Bw 0) (mdB Bw)) Rs r (hmC) (by first | assumption | omega)) (cwV 1 hts gX5_times_X5_value rfl rfl rfl (by decide +kernel) ⟨Nat.le_of_ble_eq_true rfl, Nat.le_of_ble_eq_true rfl⟩) (rw_preV hKK hP hD rfl rfl) rfl rfl hl.1 rfl (lv_room (Nat.le_of_ble_eq_true rfl)) dX5_times_87 ⟨Nat.zero_le _, Nat.zero_le _⟩) (wr := []) hP hD hS hA [0, 1, 2] [] rfl rfl (by decide) (by decide) (fun H locs hP hD hS => ?_)
    have hP : va_P (dC, dI) vwCl [(m0, .inr (5, [.ref mw, .int (bi im), .ref mt, .int (nI tl), .ref ml, .ref mz, .ref mi, .ref mr, .int (nI at0), .int (nI st0), .int (nI nu), .int (nI rm), .int (nI rh), .ref md, .ref mh])), (mw, .inl (cI, 480, .inl (nA (rwB r (muF (kdB Bw) (wdB Bw) (rsB Bw) r o) (Bw 0) (mdB Bw))))), (mr, .inl (cI, 6, .inl (nA (lkN (rwB r (muF (kdB Bw) (wdB Bw) (rsB Bw) r o) (Bw 0) (mdB Bw)) r 6 Rs))))] H := hP.sub [0, 1, 2] rfl
    have hD : va_D A [(m0, .inr (5, [.ref mw, .int (bi im), .ref mt, .int (nI tl), .ref ml, .ref mz, .ref mi, .ref mr, .int (nI at0), .int (nI st0), .int (nI nu), .int (nI rm), .int (nI rh), .ref md, .ref mh])), (mw, .inl (cI, 480, .inl (nA (rwB r (muF (kdB Bw) (wdB Bw) (rsB Bw) r o) (Bw 0) (mdB Bw))))), (mr, .inl (cI, 6, .inl (nA (lkN (rwB r (muF (kdB Bw) (wdB Bw) (rsB Bw) r o) (Bw 0) (mdB Bw)) r 6 Rs))))] := hD.sub [0, 1, 2] (by decide) rfl
    exact rr_iretWs (u := (lkN (rwB r (muF (kdB Bw) (wdB Bw) (rsB Bw) r o) (Bw 0) (mdB Bw)) r 6 Rs)) hx hb hr hlocks dX5_times_90 hP hD hS (rfl)
  refine lv_aload_n hx hb dX5_times_32 rfl (lv_at hl 1 rfl) ?_
  refine va_get (D := (dC, dI)) (ci := 5) (v := .ref mw) (C := RX5) (T := TX5) (N := 15) hx hb hts hiX5 hown hK hP 0 rfl rfl 0 (by decide) (hts (.fieldLink RX5 7 "RestRegistersModel" "w" "[I") (by decide +kernel)) (fun _ h9 => h9) rfl dX5_times_33 ?_
  refine lv_bipush (v := (nI 15)) hx hb dX5_times_36 (by decide) ?_
  refine lv_bipush (v := (nI 6)) hx hb dX5_times_38 (by decide) ?_
  refine lv_iload_n hx hb dX5_times_40 rfl (lv_at hl 2 rfl) ?_
  refine rn_imul hx hb dX5_times_41 ?_
  refine rn_iadd hx hb dX5_times_42 ?_
  refine lv_iload_n hx hb dX5_times_43 rfl (lv_at hl 0 rfl) ?_
  refine rn_iadd hx hb dX5_times_44 ?_
  refine lv_aload_n hx hb dX5_times_45 rfl (lv_at hl 1 rfl) ?_
  refine lv_iload_n hx hb dX5_times_46 rfl (lv_at hl 0 rfl) ?_
  refine lv_aload_n hx hb dX5_times_47 rfl (lv_at hl 1 rfl) ?_
  refine va_get (D := (dC, dI)) (ci := 5) (v := .ref mw) (C := RX5) (T := TX5) (N := 15) hx hb hts hiX5 hown hK hP 0 rfl rfl 0 (by decide) (hts (.fieldLink RX5 7 "RestRegistersModel" "w" "[I") (by decide +kernel)) (fun _ h9 => h9) rfl dX5_times_48 ?_
  refine lv_bipush (v := (nI 15)) hx hb dX5_times_51 (by decide) ?_
  refine lv_bipush (v := (nI 6)) hx hb dX5_times_53 (by decide) ?_
  refine lv_iload_n hx hb dX5_times_55 rfl (lv_at hl 2 rfl) ?_
  refine rn_imul hx hb dX5_times_56 ?_
  refine rn_iadd hx hb dX5_times_57 ?_
  refine lv_iload_n hx hb dX5_times_58 rfl (lv_at hl 0 rfl) ?_
  refine rn_iadd hx hb dX5_times_59 ?_
  refine rn_iald hx hb hK hP 1 0 rfl rfl (i := 15 + (6 * r) + k) (by omega) (by decide) (v := (nI (rsB Bw (r * 6 + k)))) ((rwB_at (by omega)).trans (congrArg nI (mdB_lo (by omega)))) dX5_times_60 ?_
  refine lv_aload_n hx hb dX5_times_61 rfl (lv_at hl 1 rfl) ?_
  refine va_get (D := (dC, dI)) (ci := 5) (v := .ref mw) (C := RX5) (T := TX5) (N := 15) hx hb hts hiX5 hown hK hP 0 rfl rfl 0 (by decide) (hts (.fieldLink RX5 7 "RestRegistersModel" "w" "[I") (by decide +kernel)) (fun _ h9 => h9) rfl dX5_times_62 ?_
  refine lv_bipush (v := (nI 15)) hx hb dX5_times_65 (by decide) ?_
  refine lv_bipush (v := (nI 6)) hx hb dX5_times_67 (by decide) ?_
  refine lv_iload_n hx hb dX5_times_69 rfl (lv_at hl 3 rfl) ?_
  refine rn_imul hx hb dX5_times_70 ?_
  refine rn_iadd hx hb dX5_times_71 ?_
  refine lv_iload_n hx hb dX5_times_72 rfl (lv_at hl 0 rfl) ?_
  refine rn_iadd hx hb dX5_times_73 ?_
  refine rn_iald hx hb hK hP 1 0 rfl rfl (i := 15 + (6 * o) + k) (by omega) (by decide) (v := (nI (rsB Bw (o * 6 + k)))) ((rwB_at (by omega)).trans (congrArg nI (mdB_lo (by omega)))) dX5_times_74 ?_
  refine rr_callR (va_runV (As := [.int (nI k), .int (nI (rsB Bw (r * 6 + k))), .int (nI (rsB Bw (o * 6 + k)))]) (rest := [.int (nI (15 + (6 * r) + k)), .ref mw]) ⟨hx, hb, hml, hown, hts⟩ (c_X5_timed l dC dI cI cJ cS m0 mw mt ml mz mi mr md mh im tl at0 st0 nu rm rh (rwB r (muF (kdB Bw) (wdB Bw) (rsB Bw) r o) k (mdB Bw)) k (rsB Bw (r * 6 + k)) (rsB Bw (o * 6 + k)) (kdB Bw k) (wdB Bw k) ((rwB_lo (by omega)).trans (mdB_lo (by omega))) ((rwB_lo (by omega)).trans (mdB_lo (by omega))) (hm.kd k (by omega)) ((hm.wd k (by omega)).1) ((hm.wd k (by omega)).2) (by first | assumption | omega) (hm.row hr4 k (by omega)) (hm.row ho4 k (by omega))) (cwV 3 hts gX5_times_X5_timed rfl rfl rfl (by decide +kernel) ⟨Nat.le_of_ble_eq_true rfl, Nat.le_of_ble_eq_true rfl⟩) (rr_preV hKK (hP.sub [0, 1] rfl) rfl rfl) rfl rfl hl.1 rfl (lv_room (Nat.le_of_ble_eq_true rfl)) dX5_times_75 ⟨Nat.zero_le _, Nat.zero_le _⟩) ?_
  refine rn_iast hx hb hK hP hD hS 1 0 rfl rfl (i := 15 + (6 * r) + k) (by omega) (by decide) (g := nA (uN (rwB r (muF (kdB Bw) (wdB Bw) (rsB Bw) r o) k (mdB Bw)) (15 + (6 * r) + k) (addO (kdB Bw k) (wdB Bw k) 0 (rsB Bw (r * 6 + k)) (rsB Bw (o * 6 + k))))) (nA_upd _ _ _) dX5_times_78 (fun H locs hP hD hS => ?_)
  have hP : va_P (dC, dI) vwCl [(m0, .inr (5, [.ref mw, .int (bi im), .ref mt, .int (nI tl), .ref ml, .ref mz, .ref mi, .ref mr, .int (nI at0), .int (nI st0), .int (nI nu), .int (nI rm), .int (nI rh), .ref md, .ref mh])), (mw, .inl (cI, 480, .inl (nA (uN (rwB r (muF (kdB Bw) (wdB Bw) (rsB Bw) r o) k (mdB Bw)) (15 + (6 * r) + k) (addO (kdB Bw k) (wdB Bw k) 0 (rsB Bw (r * 6 + k)) (rsB Bw (o * 6 + k))))))), (mr, .inl (cI, 6, .inl (nA Rs)))] H := hP
  have hD : va_D A [(m0, .inr (5, [.ref mw, .int (bi im), .ref mt, .int (nI tl), .ref ml, .ref mz, .ref mi, .ref mr, .int (nI at0), .int (nI st0), .int (nI nu), .int (nI rm), .int (nI rh), .ref md, .ref mh])), (mw, .inl (cI, 480, .inl (nA (uN (rwB r (muF (kdB Bw) (wdB Bw) (rsB Bw) r o) k (mdB Bw)) (15 + (6 * r) + k) (addO (kdB Bw k) (wdB Bw k) 0 (rsB Bw (r * 6 + k)) (rsB Bw (o * 6 + k))))))), (mr, .inl (cI, 6, .inl (nA Rs)))] := hD
  have ec : nA (uN (rwB r (muF (kdB Bw) (wdB Bw) (rsB Bw) r o) k (mdB Bw)) (15 + (6 * r) + k) (addO (kdB Bw k) (wdB Bw k) 0 (rsB Bw (r * 6 + k)) (rsB Bw (o * 6 + k)))) = nA (rwB r (muF (kdB Bw) (wdB Bw) (rsB Bw) r o) (k + 1) (mdB Bw)) := rwB_s (rfl)
  rw [ec] at hP hD
  have hP : va_P (dC, dI) vwCl [(m0, .inr (5, [.ref mw, .int (bi im), .ref mt, .int (nI tl), .ref ml, .ref mz, .ref mi, .ref mr, .int (nI at0), .int (nI st0), .int (nI nu), .int (nI rm), .int (nI rh), .ref md, .ref mh])), (mw, .inl (cI, 480, .inl (nA (rwB r (muF (kdB Bw) (wdB Bw) (rsB Bw) r o) (k + 1) (mdB Bw))))), (mr, .inl (cI, 6, .inl (nA Rs)))] H := hP
  have hD : va_D A [(m0, .inr (5, [.ref mw, .int (bi im), .ref mt, .int (nI tl), .ref ml, .ref mz, .ref mi, .ref mr, .int (nI at0), .int (nI st0), .int (nI nu), .int (nI rm), .int (nI rh), .ref md, .ref mh])), (mw, .inl (cI, 480, .inl (nA (rwB r (muF (kdB Bw) (wdB Bw) (rsB Bw) r o) (k + 1) (mdB Bw))))), (mr, .inl (cI, 6, .inl (nA Rs)))] := hD
  refine lv_iinc (v := (nI (k + 1))) (lv' := [(3, .int (nI (k + 1))), (0, .ref m0), (1, .int (nI r)), (2, .int (nI o))]) hx hb dX5_times_79 hl (k := 0) rfl (rn_inc k 1) (by decide) rfl (fun ls hl => ?_)
  refine lv_goto (tgt := 22) hx hb dX5_times_82 (by decide) ?_
  exact ih22 (k + 1) _ _ ls ⟨by omega, hP, hD, hS, lv_sub hl [0, 1, 2, 3] rfl⟩ (by omega)
set_option maxHeartbeats 4000000 in
set_option maxRecDepth 100000 in
theorem c_X5_times_b (l : Launch) (dC : Nat → ClassId) (dI : Nat → Nat → Nat) (cI cJ cS : ClassId) (m0 mw mt ml mz mi mr md mh : Nat) (im : Bool) (tl at0 st0 nu rm rh : Nat) (Bw : Nat → Nat) (x y : Int32) (hm : mOk Bw) (hbad : (inb x 4 && inb y 4) = false) : Met l yX5_times wsX5_times ({ frames := 5, cells := 0, slots := 0, locals := 116 }) (va_Pc [.ref m0, .int x, .int y] (rB (dC, dI) vwCl [(m0, .inr (5, [.ref mw, .int (bi im), .ref mt, .int (nI tl), .ref ml, .ref mz, .ref mi, .ref mr, .int (nI at0), .int (nI st0), .int (nI nu), .int (nI rm), .int (nI rh), .ref md, .ref mh])), (mw, .inl (cI, 480, .inl (nA Bw)))] (tyz cI cJ cS))) (QcRead (-1)) 0 0 (fun _ => False) := by
  refine Met.ofW (cc := cX5_times) (maxL := 4) (ret := (some .int)) (by decide) rfl ?_
  intro p e s m args below meth c s₁ B hml hv
  obtain ⟨rfl, hP, hKK⟩ := hv
  have hK := hKK.1
  have hx := B.exec
  have hb := B.bytes
  have hr := B.returns
  have hts := atoms_spec (ws := wsX5_times) B.pre
  have hown : s.vm.findClass RX5 = some m.cls := findClass_of_methodNamed B.named
  have hlocks := B.notSynchronized
  have hiX5 : ∀ w ∈ wsX50, w ∈ wsX5_times := by decide +kernel
  have hl := lv_entry ([.ref m0, .int x, .int y]) (n := 4) (Nat.le_of_ble_eq_true rfl)
  rw [lg_entry_eq]
  generalize (lg_sl ([.ref m0, .int x, .int y]) ++ List.replicate (4 - (lg_sl ([.ref m0, .int x, .int y])).length) Slot.unset).toArray = ls at hl ⊢
  have hl : lv_has ls 4 [(0, .ref m0), (1, .int x), (2, .int y)] := hl
  have hn6 := hm.n
  refine lv_iload_n hx hb dX5_times_0 rfl (lv_at hl 1 rfl) ?_
  refine rr_callR (va_runS (As := [.int x]) (rest := []) ⟨hx, hb, hml, hown, hts⟩ (c_X5_isRegister l x ) (va_cwS 1 hts gX5_times_X5_isRegister rfl rfl rfl (by decide +kernel) ⟨Nat.le_of_ble_eq_true rfl, Nat.le_of_ble_eq_true rfl⟩) rr_preT rfl rfl hl.1 rfl (lv_room (Nat.le_of_ble_eq_true rfl)) dX5_times_1 ⟨Nat.zero_le _, Nat.zero_le _⟩) ?_
  refine rb_if_eq (tgt := 14) hx hb dX5_times_4 (by decide) (fun c4 => ?_) (fun c4 => ?_)
  · skip
    refine lv_iconst (v := (-1)) hx hb dX5_times_14 (by decide) ?_
    exact rr_iret hx hb hr hlocks dX5_times_15 (rfl)
  refine lv_iload_n hx hb dX5_times_7 rfl (lv_at hl 2 rfl) ?_
  refine rr_callR (va_runS (As := [.int y]) (rest := []) ⟨hx, hb, hml, hown, hts⟩ (c_X5_isRegister l y ) (va_cwS 1 hts gX5_times_X5_isRegister rfl rfl rfl (by decide +kernel) ⟨Nat.le_of_ble_eq_true rfl, Nat.le_of_ble_eq_true rfl⟩) rr_preT rfl rfl hl.1 rfl (lv_room (Nat.le_of_ble_eq_true rfl)) dX5_times_8 ⟨Nat.zero_le _, Nat.zero_le _⟩) ?_
  refine rb_if_ne (tgt := 16) hx hb dX5_times_11 (by decide) (fun c11 => ?_) (fun c11 => ?_)
  · skip
    exact absurd hbad (by rw [c4, c11]; decide)
  refine lv_iconst (v := (-1)) hx hb dX5_times_14 (by decide) ?_
  exact rr_iret hx hb hr hlocks dX5_times_15 (rfl)
set_option maxHeartbeats 4000000 in
set_option maxRecDepth 100000 in
theorem c_X5_negate_g (l : Launch) (dC : Nat → ClassId) (dI : Nat → Nat → Nat) (cI cJ cS : ClassId) (sz : Nat) (m0 mw mt ml mz mi mr md mh : Nat) (im : Bool) (tl at0 st0 nu rm rh : Nat) (Bw Rs : Nat → Nat) (r : Nat) (hm : mOk Bw) (hr4 : r < 4) : Met l yX5_negate wsX5_negate ({ frames := 2, cells := 0, slots := 0, locals := 45 }) (va_Pc [.ref m0, .int (nI r)] (rW (dC, dI) vwCl [(m0, .inr (5, [.ref mw, .int (bi im), .ref mt, .int (nI tl), .ref ml, .ref mz, .ref mi, .ref mr, .int (nI at0), .int (nI st0), .int (nI nu), .int (nI rm), .int (nI rh), .ref md, .ref mh])), (mw, .inl (cI, 480, .inl (nA Bw))), (mr, .inl (cI, 6, .inl (nA Rs)))] (tyz cI cJ cS) sz)) (qIs (nI (VB (rwB r (ngF (wdB Bw) (rsB Bw) r) (Bw 0) (mdB Bw)) r)) (dC, dI) vwCl (fun Rq => [(m0, .inr (5, [.ref mw, .int (bi im), .ref mt, .int (nI tl), .ref ml, .ref mz, .ref mi, .ref mr, .int (nI at0), .int (nI st0), .int (nI nu), .int (nI rm), .int (nI rh), .ref md, .ref mh])), (mw, .inl (cI, 480, .inl (nA (rwB r (ngF (wdB Bw) (rsB Bw) r) (Bw 0) (mdB Bw))))), (mr, .inl (cI, 6, .inl (nA Rq)))]) (va_A [(m0, .inr (5, [.ref mw, .int (bi im), .ref mt, .int (nI tl), .ref ml, .ref mz, .ref mi, .ref mr, .int (nI at0), .int (nI st0), .int (nI nu), .int (nI rm), .int (nI rh), .ref md, .ref mh])), (mw, .inl (cI, 480, .inl (nA Bw))), (mr, .inl (cI, 6, .inl (nA Rs)))] sz)) 0 0 (va_A [(m0, .inr (5, [.ref mw, .int (bi im), .ref mt, .int (nI tl), .ref ml, .ref mz, .ref mi, .ref mr, .int (nI at0), .int (nI st0), .int (nI nu), .int (nI rm), .int (nI rh), .ref md, .ref mh])), (mw, .inl (cI, 480, .inl (nA Bw))), (mr, .inl (cI, 6, .inl (nA Rs)))] sz) := by
  refine Met.ofW (cc := cX5_negate) (maxL := 4) (ret := (some .int)) (by decide) rfl ?_
  intro p e s m args below meth c s₁ B hml hv
  obtain ⟨rfl, hsz, hP, hKK, hD0⟩ := hv
  have hK := hKK.1
  have hx := B.exec
  have hb := B.bytes
  have hr := B.returns
  have hts := atoms_spec (ws := wsX5_negate) B.pre
  have hown : s.vm.findClass RX5 = some m.cls := findClass_of_methodNamed B.named
  have hlocks := B.notSynchronized
  subst hsz
  have hD := hD0.self (sz := s.heap.size)
  generalize hAe : va_A [(m0, .inr (5, [.ref mw, .int (bi im), .ref mt, .int (nI tl), .ref ml, .ref mz, .ref mi, .ref mr, .int (nI at0), .int (nI st0), .int (nI nu), .int (nI rm), .int (nI rh), .ref md, .ref mh])), (mw, .inl (cI, 480, .inl (nA Bw))), (mr, .inl (cI, 6, .inl (nA Rs)))] s.heap.size = A at hD ⊢
  have hA : ∀ q : Nat, s.heap.size ≤ q → A q := fun q h => by rw [← hAe]; exact Or.inr h
  have hS : va_S A s.heap s.heap [] := va_S.rf
  have hP : va_P (dC, dI) vwCl [(m0, .inr (5, [.ref mw, .int (bi im), .ref mt, .int (nI tl), .ref ml, .ref mz, .ref mi, .ref mr, .int (nI at0), .int (nI st0), .int (nI nu), .int (nI rm), .int (nI rh), .ref md, .ref mh])), (mw, .inl (cI, 480, .inl (nA Bw))), (mr, .inl (cI, 6, .inl (nA Rs)))] s.heap := hP
  have hiX5 : ∀ w ∈ wsX50, w ∈ wsX5_negate := by decide +kernel
  have hl := lv_entry ([.ref m0, .int (nI r)]) (n := 4) (Nat.le_of_ble_eq_true rfl)
  rw [lg_entry_eq]
  generalize (lg_sl ([.ref m0, .int (nI r)]) ++ List.replicate (4 - (lg_sl ([.ref m0, .int (nI r)])).length) Slot.unset).toArray = ls at hl ⊢
  have hl : lv_has ls 4 [(0, .ref m0), (1, .int (nI r))] := hl
  have hn6 := hm.n
  refine lv_iload_n hx hb dX5_negate_0 rfl (lv_at hl 1 rfl) ?_
  refine rr_callR (va_runS (As := [.int (nI r)]) (rest := []) ⟨hx, hb, hml, hown, hts⟩ (c_X5_isRegister l (nI r) ) (va_cwS 1 hts gX5_negate_X5_isRegister rfl rfl rfl (by decide +kernel) ⟨Nat.le_of_ble_eq_true rfl, Nat.le_of_ble_eq_true rfl⟩) rr_preT rfl rfl hl.1 rfl (lv_room (Nat.le_of_ble_eq_true rfl)) dX5_negate_1 ⟨Nat.zero_le _, Nat.zero_le _⟩) ?_
  refine rr_top (y := bi true) (congrArg bi (inb_lt (by omega) (by omega))) ?_
  refine rb_if_ne (tgt := 9) hx hb dX5_negate_4 (by decide) (fun c4 => ?_) (fun c4 => ?_)
  rotate_left
  · exact absurd c4 (by decide)
  refine lv_aload_n hx hb dX5_negate_9 rfl (lv_at hl 0 rfl) ?_
  refine rw_callv (va_runV (As := []) (rest := []) ⟨hx, hb, hml, hown, hts⟩ (c_X5_minds l dC dI cI cJ cS _ m0 mw mt ml mz mi mr md mh im tl at0 st0 nu rm rh Bw (hm.2.2.2.1)) (cwV 0 hts gX5_negate_X5_minds rfl rfl rfl (by decide +kernel) ⟨Nat.le_of_ble_eq_true rfl, Nat.le_of_ble_eq_true rfl⟩) (rw_preV hKK (hP.sub [0, 1] rfl) (hD.sub [0, 1] (by decide) rfl) rfl rfl) rfl rfl hl.1 rfl (lv_room (Nat.le_of_ble_eq_true rfl)) dX5_negate_10 ⟨Nat.zero_le _, Nat.zero_le _⟩) (wr := [(mr, .inl (cI, 6, .inl (nA Rs)))]) hP hD hS hA [0, 1] [2] rfl rfl (by decide) (by decide) (fun H locs hP hD hS => ?_)
  have hP : va_P (dC, dI) vwCl [(m0, .inr (5, [.ref mw, .int (bi im), .ref mt, .int (nI tl), .ref ml, .ref mz, .ref mi, .ref mr, .int (nI at0), .int (nI st0), .int (nI nu), .int (nI rm), .int (nI rh), .ref md, .ref mh])), (mw, .inl (cI, 480, .inl (nA (mdB Bw)))), (mr, .inl (cI, 6, .inl (nA Rs)))] H := hP.sub [1, 2, 0] rfl
  have hD : va_D A [(m0, .inr (5, [.ref mw, .int (bi im), .ref mt, .int (nI tl), .ref ml, .ref mz, .ref mi, .ref mr, .int (nI at0), .int (nI st0), .int (nI nu), .int (nI rm), .int (nI rh), .ref md, .ref mh])), (mw, .inl (cI, 480, .inl (nA (mdB Bw)))), (mr, .inl (cI, 6, .inl (nA Rs)))] := hD.sub [1, 2, 0] (by decide) rfl
  refine lv_iconst (v := (nI 0)) hx hb dX5_negate_13 (by decide) ?_
  refine lv_istore_n (lv' := [(2, .int (nI 0)), (0, .ref m0), (1, .int (nI r))]) hx hb dX5_negate_14 rfl hl (by decide) rfl (fun ls hl => ?_)
  have ec : nA (mdB Bw) = nA (rwB r (ngF (wdB Bw) (rsB Bw) r) 0 (mdB Bw)) := rwB_0 _ _ _
  rw [ec] at hP hD
  have hP : va_P (dC, dI) vwCl [(m0, .inr (5, [.ref mw, .int (bi im), .ref mt, .int (nI tl), .ref ml, .ref mz, .ref mi, .ref mr, .int (nI at0), .int (nI st0), .int (nI nu), .int (nI rm), .int (nI rh), .ref md, .ref mh])), (mw, .inl (cI, 480, .inl (nA (rwB r (ngF (wdB Bw) (rsB Bw) r) 0 (mdB Bw))))), (mr, .inl (cI, 6, .inl (nA Rs)))] H := hP
  have hD : va_D A [(m0, .inr (5, [.ref mw, .int (bi im), .ref mt, .int (nI tl), .ref ml, .ref mz, .ref mi, .ref mr, .int (nI at0), .int (nI st0), .int (nI nu), .int (nI rm), .int (nI rh), .ref md, .ref mh])), (mw, .inl (cI, 480, .inl (nA (rwB r (ngF (wdB Bw) (rsB Bw) r) 0 (mdB Bw))))), (mr, .inl (cI, 6, .inl (nA Rs)))] := hD
  refine rlW1 (A1 := Nat) (fun H locs ls => W p l e _ s m _ below meth c H locs 0 0 _ (F0 m 15 ls [])) (fun k H locs ls => k ≤ Bw 0 ∧ va_P (dC, dI) vwCl [(m0, .inr (5, [.ref mw, .int (bi im), .ref mt, .int (nI tl), .ref ml, .ref mz, .ref mi, .ref mr, .int (nI at0), .int (nI st0), .int (nI nu), .int (nI rm), .int (nI rh), .ref md, .ref mh])), (mw, .inl (cI, 480, .inl (nA (rwB r (ngF (wdB Bw) (rsB Bw) r) k (mdB Bw))))), (mr, .inl (cI, 6, .inl (nA Rs)))] H ∧ va_D A [(m0, .inr (5, [.ref mw, .int (bi im), .ref mt, .int (nI tl), .ref ml, .ref mz, .ref mi, .ref mr, .int (nI at0), .int (nI st0), .int (nI nu), .int (nI rm), .int (nI rh), .ref md, .ref mh])), (mw, .inl (cI, 480, .inl (nA (rwB r (ngF (wdB Bw) (rsB Bw) r) k (mdB Bw))))), (mr, .inl (cI, 6, .inl (nA Rs)))] ∧ va_S A s.heap H locs ∧ lv_has ls 4 [(2, .int (nI k)), (0, .ref m0), (1, .int (nI r))]) (fun k => Bw 0 - k) ?_ 0 H locs ls ⟨by omega, hP, hD, hS, lv_sub hl [0, 1, 2] rfl⟩
  rintro k H locs ls ⟨hi, hP, hD, hS, hl⟩ ih15
  refine lv_iload_n hx hb dX5_negate_15 rfl (lv_at hl 0 rfl) ?_
  refine lv_aload_n hx hb dX5_negate_16 rfl (lv_at hl 1 rfl) ?_
  refine va_get (D := (dC, dI)) (ci := 5) (v := .ref mw) (C := RX5) (T := TX5) (N := 15) hx hb hts hiX5 hown hK hP 0 rfl rfl 0 (by decide) (hts (.fieldLink RX5 7 "RestRegistersModel" "w" "[I") (by decide +kernel)) (fun _ h9 => h9) rfl dX5_negate_17 ?_
  refine lv_iconst (v := (nI 0)) hx hb dX5_negate_20 (by decide) ?_
  refine rn_iald hx hb hK hP 1 0 rfl rfl (i := 0) (by omega) (by decide) (v := (nI (Bw 0))) (congrArg nI ((rwB_lo (by omega)).trans (mdB_lo (by omega)))) dX5_negate_21 ?_
  refine rn_icmp_ge (tgt := 79) hx hb dX5_negate_22 (by decide) (by omega) (by omega) (fun c22 => ?_) (fun c22 => ?_)
  · skip
    have ek : k = Bw 0 := Nat.le_antisymm hi c22
    subst ek
    have hP : va_P (dC, dI) vwCl [(m0, .inr (5, [.ref mw, .int (bi im), .ref mt, .int (nI tl), .ref ml, .ref mz, .ref mi, .ref mr, .int (nI at0), .int (nI st0), .int (nI nu), .int (nI rm), .int (nI rh), .ref md, .ref mh])), (mw, .inl (cI, 480, .inl (nA (rwB r (ngF (wdB Bw) (rsB Bw) r) (Bw 0) (mdB Bw))))), (mr, .inl (cI, 6, .inl (nA Rs)))] H := hP
    have hD : va_D A [(m0, .inr (5, [.ref mw, .int (bi im), .ref mt, .int (nI tl), .ref ml, .ref mz, .ref mi, .ref mr, .int (nI at0), .int (nI st0), .int (nI nu), .int (nI rm), .int (nI rh), .ref md, .ref mh])), (mw, .inl (cI, 480, .inl (nA (rwB r (ngF (wdB Bw) (rsB Bw) r) (Bw 0) (mdB Bw))))), (mr, .inl (cI, 6, .inl (nA Rs)))] := hD
    have hmC : mOk (rwB r (ngF (wdB Bw) (rsB Bw) r) (Bw 0) (mdB Bw)) := mOk_op hm hr4 hm.n (fun k hk hk0 => ngF_lt hm.rs hr4 k hk)
    refine lv_aload_n hx hb dX5_negate_79 rfl (lv_at hl 1 rfl) ?_
    refine lv_iload_n hx hb dX5_negate_80 rfl (lv_at hl 2 rfl) ?_
    refine rw_calli (va_runV (As := [.int (nI r)]) (rest := []) ⟨hx, hb, hml, hown, hts⟩ (c_X5_value l dC dI cI cJ cS _ m0 mw mt ml mz mi mr md mh im tl at0 st0 nu rm rh (rwB r (ngF (wdB Bw) (rsB Bw) r) (Bw 0) (mdB Bw)) Rs r (hmC) (by first | assumption | omega)) (cwV 1 hts gX5_negate_X5_value rfl rfl rfl (by decide +kernel) ⟨Nat.le_of_ble_eq_true rfl, Nat.le_of_ble_eq_true rfl⟩) (rw_preV hKK hP hD rfl rfl) rfl rfl hl.1 rfl (lv_room (Nat.le_of_ble_eq_true rfl)) dX5_negate_81 ⟨Nat.zero_le _, Nat.zero_le _⟩) (wr := []) hP hD hS hA [0, 1, 2] [] rfl rfl (by decide) (by decide) (fun H locs hP hD hS => ?_)
    have hP : va_P (dC, dI) vwCl [(m0, .inr (5, [.ref mw, .int (bi im), .ref mt, .int (nI tl), .ref ml, .ref mz, .ref mi, .ref mr, .int (nI at0), .int (nI st0), .int (nI nu), .int (nI rm), .int (nI rh), .ref md, .ref mh])), (mw, .inl (cI, 480, .inl (nA (rwB r (ngF (wdB Bw) (rsB Bw) r) (Bw 0) (mdB Bw))))), (mr, .inl (cI, 6, .inl (nA (lkN (rwB r (ngF (wdB Bw) (rsB Bw) r) (Bw 0) (mdB Bw)) r 6 Rs))))] H := hP.sub [0, 1, 2] rfl
    have hD : va_D A [(m0, .inr (5, [.ref mw, .int (bi im), .ref mt, .int (nI tl), .ref ml, .ref mz, .ref mi, .ref mr, .int (nI at0), .int (nI st0), .int (nI nu), .int (nI rm), .int (nI rh), .ref md, .ref mh])), (mw, .inl (cI, 480, .inl (nA (rwB r (ngF (wdB Bw) (rsB Bw) r) (Bw 0) (mdB Bw))))), (mr, .inl (cI, 6, .inl (nA (lkN (rwB r (ngF (wdB Bw) (rsB Bw) r) (Bw 0) (mdB Bw)) r 6 Rs))))] := hD.sub [0, 1, 2] (by decide) rfl
    exact rr_iretWs (u := (lkN (rwB r (ngF (wdB Bw) (rsB Bw) r) (Bw 0) (mdB Bw)) r 6 Rs)) hx hb hr hlocks dX5_negate_84 hP hD hS (rfl)
  refine lv_aload_n hx hb dX5_negate_25 rfl (lv_at hl 1 rfl) ?_
  refine va_get (D := (dC, dI)) (ci := 5) (v := .ref mw) (C := RX5) (T := TX5) (N := 15) hx hb hts hiX5 hown hK hP 0 rfl rfl 0 (by decide) (hts (.fieldLink RX5 7 "RestRegistersModel" "w" "[I") (by decide +kernel)) (fun _ h9 => h9) rfl dX5_negate_26 ?_
  refine lv_bipush (v := (nI 15)) hx hb dX5_negate_29 (by decide) ?_
  refine lv_bipush (v := (nI 6)) hx hb dX5_negate_31 (by decide) ?_
  refine lv_iload_n hx hb dX5_negate_33 rfl (lv_at hl 2 rfl) ?_
  refine rn_imul hx hb dX5_negate_34 ?_
  refine rn_iadd hx hb dX5_negate_35 ?_
  refine lv_iload_n hx hb dX5_negate_36 rfl (lv_at hl 0 rfl) ?_
  refine rn_iadd hx hb dX5_negate_37 ?_
  refine rn_iald hx hb hK hP 1 0 rfl rfl (i := 15 + (6 * r) + k) (by omega) (by decide) (v := (nI (rsB Bw (r * 6 + k)))) ((rwB_at (by omega)).trans (congrArg nI (mdB_lo (by omega)))) dX5_negate_38 ?_
  refine lv_istore_n (lv' := [(3, .int (nI (rsB Bw (r * 6 + k)))), (2, .int (nI k)), (0, .ref m0), (1, .int (nI r))]) hx hb dX5_negate_39 rfl hl (by decide) rfl (fun ls hl => ?_)
  refine lv_aload_n hx hb dX5_negate_40 rfl (lv_at hl 2 rfl) ?_
  refine va_get (D := (dC, dI)) (ci := 5) (v := .ref mw) (C := RX5) (T := TX5) (N := 15) hx hb hts hiX5 hown hK hP 0 rfl rfl 0 (by decide) (hts (.fieldLink RX5 7 "RestRegistersModel" "w" "[I") (by decide +kernel)) (fun _ h9 => h9) rfl dX5_negate_41 ?_
  refine lv_bipush (v := (nI 15)) hx hb dX5_negate_44 (by decide) ?_
  refine lv_bipush (v := (nI 6)) hx hb dX5_negate_46 (by decide) ?_
  refine lv_iload_n hx hb dX5_negate_48 rfl (lv_at hl 3 rfl) ?_
  refine rn_imul hx hb dX5_negate_49 ?_
  refine rn_iadd hx hb dX5_negate_50 ?_
  refine lv_iload_n hx hb dX5_negate_51 rfl (lv_at hl 1 rfl) ?_
  refine rn_iadd hx hb dX5_negate_52 ?_
  refine lv_iload_n hx hb dX5_negate_53 rfl (lv_at hl 0 rfl) ?_
  have hq2 := hm.row hr4 k (by omega)
  have hq3 := hm.wd k (by omega)
  refine rn_if_ne (tgt := 61) hx hb dX5_negate_54 (by decide) (by omega) (fun c54 => ?_) (fun c54 => ?_)
  · skip
    refine lv_aload_n hx hb dX5_negate_61 rfl (lv_at hl 2 rfl) ?_
    refine va_get (D := (dC, dI)) (ci := 5) (v := .ref mw) (C := RX5) (T := TX5) (N := 15) hx hb hts hiX5 hown hK hP 0 rfl rfl 0 (by decide) (hts (.fieldLink RX5 7 "RestRegistersModel" "w" "[I") (by decide +kernel)) (fun _ h9 => h9) rfl dX5_negate_62 ?_
    refine lv_bipush (v := (nI 8)) hx hb dX5_negate_65 (by decide) ?_
    refine lv_iload_n hx hb dX5_negate_67 rfl (lv_at hl 1 rfl) ?_
    refine rn_iadd hx hb dX5_negate_68 ?_
    refine rn_iald hx hb hK hP 1 0 rfl rfl (i := 8 + k) (by omega) (by decide) (v := (nI (wdB Bw k))) ((rwB_wd (by omega)).trans (congrArg nI (mdB_lo (by omega)))) dX5_negate_69 ?_
    refine lv_iload_n hx hb dX5_negate_70 rfl (lv_at hl 0 rfl) ?_
    refine rn_isub hx hb dX5_negate_71 (by omega) ?_
    refine rn_iast hx hb hK hP hD hS 1 0 rfl rfl (i := 15 + (6 * r) + k) (by omega) (by decide) (g := nA (uN (rwB r (ngF (wdB Bw) (rsB Bw) r) k (mdB Bw)) (15 + (6 * r) + k) (wdB Bw k - (rsB Bw (r * 6 + k))))) (nA_upd _ _ _) dX5_negate_72 (fun H locs hP hD hS => ?_)
    have hP : va_P (dC, dI) vwCl [(m0, .inr (5, [.ref mw, .int (bi im), .ref mt, .int (nI tl), .ref ml, .ref mz, .ref mi, .ref mr, .int (nI at0), .int (nI st0), .int (nI nu), .int (nI rm), .int (nI rh), .ref md, .ref mh])), (mw, .inl (cI, 480, .inl (nA (uN (rwB r (ngF (wdB Bw) (rsB Bw) r) k (mdB Bw)) (15 + (6 * r) + k) (wdB Bw k - (rsB Bw (r * 6 + k))))))), (mr, .inl (cI, 6, .inl (nA Rs)))] H := hP
    have hD : va_D A [(m0, .inr (5, [.ref mw, .int (bi im), .ref mt, .int (nI tl), .ref ml, .ref mz, .ref mi, .ref mr, .int (nI at0), .int (nI st0), .int (nI nu), .int (nI rm), .int (nI rh), .ref md, .ref mh])), (mw, .inl (cI, 480, .inl (nA (uN (rwB r (ngF (wdB Bw) (rsB Bw) r) k (mdB Bw)) (15 + (6 * r) + k) (wdB Bw k - (rsB Bw (r * 6 + k))))))), (mr, .inl (cI, 6, .inl (nA Rs)))] := hD
    have ec : nA (uN (rwB r (ngF (wdB Bw) (rsB Bw) r) k (mdB Bw)) (15 + (6 * r) + k) (wdB Bw k - (rsB Bw (r * 6 + k)))) = nA (rwB r (ngF (wdB Bw) (rsB Bw) r) (k + 1) (mdB Bw)) := rwB_s (by unfold ngF; first | (rw [if_pos c54]; done) | (rw [if_neg c54]))
    rw [ec] at hP hD
    have hP : va_P (dC, dI) vwCl [(m0, .inr (5, [.ref mw, .int (bi im), .ref mt, .int (nI tl), .ref ml, .ref mz, .ref mi, .ref mr, .int (nI at0), .int (nI st0), .int (nI nu), .int (nI rm), .int (nI rh), .ref md, .ref mh])), (mw, .inl (cI, 480, .inl (nA (rwB r (ngF (wdB Bw) (rsB Bw) r) (k + 1) (mdB Bw))))), (mr, .inl (cI, 6, .inl (nA Rs)))] H := hP
    have hD : va_D A [(m0, .inr (5, [.ref mw, .int (bi im), .ref mt, .int (nI tl), .ref ml, .ref mz, .ref mi, .ref mr, .int (nI at0), .int (nI st0), .int (nI nu), .int (nI rm), .int (nI rh), .ref md, .ref mh])), (mw, .inl (cI, 480, .inl (nA (rwB r (ngF (wdB Bw) (rsB Bw) r) (k + 1) (mdB Bw))))), (mr, .inl (cI, 6, .inl (nA Rs)))] := hD
    refine lv_iinc (v := (nI (k + 1))) (lv' := [(2, .int (nI (k + 1))), (3, .int (nI (rsB Bw (r * 6 + k)))), (0, .ref m0), (1, .int (nI r))]) hx hb dX5_negate_73 hl (k := 1) rfl (rn_inc k 1) (by decide) rfl (fun ls hl => ?_)
    refine lv_goto (tgt := 15) hx hb dX5_negate_76 (by decide) ?_
    exact ih15 (k + 1) _ _ ls ⟨by omega, hP, hD, hS, lv_sub hl [0, 2, 3] rfl⟩ (by omega)
  refine lv_iconst (v := (nI 0)) hx hb dX5_negate_57 (by decide) ?_
  refine lv_goto (tgt := 72) hx hb dX5_negate_58 (by decide) ?_
  refine rn_iast hx hb hK hP hD hS 1 0 rfl rfl (i := 15 + (6 * r) + k) (by omega) (by decide) (g := nA (uN (rwB r (ngF (wdB Bw) (rsB Bw) r) k (mdB Bw)) (15 + (6 * r) + k) 0)) (nA_upd _ _ _) dX5_negate_72 (fun H locs hP hD hS => ?_)
  have hP : va_P (dC, dI) vwCl [(m0, .inr (5, [.ref mw, .int (bi im), .ref mt, .int (nI tl), .ref ml, .ref mz, .ref mi, .ref mr, .int (nI at0), .int (nI st0), .int (nI nu), .int (nI rm), .int (nI rh), .ref md, .ref mh])), (mw, .inl (cI, 480, .inl (nA (uN (rwB r (ngF (wdB Bw) (rsB Bw) r) k (mdB Bw)) (15 + (6 * r) + k) 0)))), (mr, .inl (cI, 6, .inl (nA Rs)))] H := hP
  have hD : va_D A [(m0, .inr (5, [.ref mw, .int (bi im), .ref mt, .int (nI tl), .ref ml, .ref mz, .ref mi, .ref mr, .int (nI at0), .int (nI st0), .int (nI nu), .int (nI rm), .int (nI rh), .ref md, .ref mh])), (mw, .inl (cI, 480, .inl (nA (uN (rwB r (ngF (wdB Bw) (rsB Bw) r) k (mdB Bw)) (15 + (6 * r) + k) 0)))), (mr, .inl (cI, 6, .inl (nA Rs)))] := hD
  have ec : nA (uN (rwB r (ngF (wdB Bw) (rsB Bw) r) k (mdB Bw)) (15 + (6 * r) + k) 0) = nA (rwB r (ngF (wdB Bw) (rsB Bw) r) (k + 1) (mdB Bw)) := rwB_s (by unfold ngF; first | (rw [if_pos c54]; done) | (rw [if_neg c54]))
  rw [ec] at hP hD
  have hP : va_P (dC, dI) vwCl [(m0, .inr (5, [.ref mw, .int (bi im), .ref mt, .int (nI tl), .ref ml, .ref mz, .ref mi, .ref mr, .int (nI at0), .int (nI st0), .int (nI nu), .int (nI rm), .int (nI rh), .ref md, .ref mh])), (mw, .inl (cI, 480, .inl (nA (rwB r (ngF (wdB Bw) (rsB Bw) r) (k + 1) (mdB Bw))))), (mr, .inl (cI, 6, .inl (nA Rs)))] H := hP
  have hD : va_D A [(m0, .inr (5, [.ref mw, .int (bi im), .ref mt, .int (nI tl), .ref ml, .ref mz, .ref mi, .ref mr, .int (nI at0), .int (nI st0), .int (nI nu), .int (nI rm), .int (nI rh), .ref md, .ref mh])), (mw, .inl (cI, 480, .inl (nA (rwB r (ngF (wdB Bw) (rsB Bw) r) (k + 1) (mdB Bw))))), (mr, .inl (cI, 6, .inl (nA Rs)))] := hD
  refine lv_iinc (v := (nI (k + 1))) (lv' := [(2, .int (nI (k + 1))), (3, .int (nI (rsB Bw (r * 6 + k)))), (0, .ref m0), (1, .int (nI r))]) hx hb dX5_negate_73 hl (k := 1) rfl (rn_inc k 1) (by decide) rfl (fun ls hl => ?_)
  refine lv_goto (tgt := 15) hx hb dX5_negate_76 (by decide) ?_
  exact ih15 (k + 1) _ _ ls ⟨by omega, hP, hD, hS, lv_sub hl [0, 2, 3] rfl⟩ (by omega)
set_option maxHeartbeats 4000000 in
set_option maxRecDepth 100000 in
theorem c_X5_negate_b (l : Launch) (dC : Nat → ClassId) (dI : Nat → Nat → Nat) (cI cJ cS : ClassId) (m0 mw mt ml mz mi mr md mh : Nat) (im : Bool) (tl at0 st0 nu rm rh : Nat) (Bw : Nat → Nat) (x : Int32) (hm : mOk Bw) (hbad : (inb x 4) = false) : Met l yX5_negate wsX5_negate ({ frames := 2, cells := 0, slots := 0, locals := 45 }) (va_Pc [.ref m0, .int x] (rB (dC, dI) vwCl [(m0, .inr (5, [.ref mw, .int (bi im), .ref mt, .int (nI tl), .ref ml, .ref mz, .ref mi, .ref mr, .int (nI at0), .int (nI st0), .int (nI nu), .int (nI rm), .int (nI rh), .ref md, .ref mh])), (mw, .inl (cI, 480, .inl (nA Bw)))] (tyz cI cJ cS))) (QcRead (-1)) 0 0 (fun _ => False) := by
  refine Met.ofW (cc := cX5_negate) (maxL := 4) (ret := (some .int)) (by decide) rfl ?_
  intro p e s m args below meth c s₁ B hml hv
  obtain ⟨rfl, hP, hKK⟩ := hv
  have hK := hKK.1
  have hx := B.exec
  have hb := B.bytes
  have hr := B.returns
  have hts := atoms_spec (ws := wsX5_negate) B.pre
  have hown : s.vm.findClass RX5 = some m.cls := findClass_of_methodNamed B.named
  have hlocks := B.notSynchronized
  have hiX5 : ∀ w ∈ wsX50, w ∈ wsX5_negate := by decide +kernel
  have hl := lv_entry ([.ref m0, .int x]) (n := 4) (Nat.le_of_ble_eq_true rfl)
  rw [lg_entry_eq]
  generalize (lg_sl ([.ref m0, .int x]) ++ List.replicate (4 - (lg_sl ([.ref m0, .int x])).length) Slot.unset).toArray = ls at hl ⊢
  have hl : lv_has ls 4 [(0, .ref m0), (1, .int x)] := hl
  have hn6 := hm.n
  refine lv_iload_n hx hb dX5_negate_0 rfl (lv_at hl 1 rfl) ?_
  refine rr_callR (va_runS (As := [.int x]) (rest := []) ⟨hx, hb, hml, hown, hts⟩ (c_X5_isRegister l x ) (va_cwS 1 hts gX5_negate_X5_isRegister rfl rfl rfl (by decide +kernel) ⟨Nat.le_of_ble_eq_true rfl, Nat.le_of_ble_eq_true rfl⟩) rr_preT rfl rfl hl.1 rfl (lv_room (Nat.le_of_ble_eq_true rfl)) dX5_negate_1 ⟨Nat.zero_le _, Nat.zero_le _⟩) ?_
  refine rb_if_ne (tgt := 9) hx hb dX5_negate_4 (by decide) (fun c4 => ?_) (fun c4 => ?_)
  · skip
    exact absurd hbad (by rw [c4]; decide)
  refine lv_iconst (v := (-1)) hx hb dX5_negate_7 (by decide) ?_
  exact rr_iret hx hb hr hlocks dX5_negate_8 (rfl)
set_option maxHeartbeats 4000000 in
set_option maxRecDepth 100000 in
theorem c_X5_take_g (l : Launch) (dC : Nat → ClassId) (dI : Nat → Nat → Nat) (cI cJ cS : ClassId) (sz : Nat) (m0 mw mt ml mz mi mr md mh : Nat) (im : Bool) (tl at0 st0 nu rm rh : Nat) (Bw Rs : Nat → Nat) (r o : Nat) (hm : mOk Bw) (hr4 : r < 4) (ho4 : o < 4) (hne : r ≠ o) : Met l yX5_take wsX5_take ({ frames := 2, cells := 0, slots := 0, locals := 45 }) (va_Pc [.ref m0, .int (nI r), .int (nI o)] (rW (dC, dI) vwCl [(m0, .inr (5, [.ref mw, .int (bi im), .ref mt, .int (nI tl), .ref ml, .ref mz, .ref mi, .ref mr, .int (nI at0), .int (nI st0), .int (nI nu), .int (nI rm), .int (nI rh), .ref md, .ref mh])), (mw, .inl (cI, 480, .inl (nA Bw))), (mr, .inl (cI, 6, .inl (nA Rs)))] (tyz cI cJ cS) sz)) (qIs (nI (VB (rwB r (fun k => rsB Bw (o * 6 + k)) (6) (mdB Bw)) r)) (dC, dI) vwCl (fun Rq => [(m0, .inr (5, [.ref mw, .int (bi im), .ref mt, .int (nI tl), .ref ml, .ref mz, .ref mi, .ref mr, .int (nI at0), .int (nI st0), .int (nI nu), .int (nI rm), .int (nI rh), .ref md, .ref mh])), (mw, .inl (cI, 480, .inl (nA (rwB r (fun k => rsB Bw (o * 6 + k)) (6) (mdB Bw))))), (mr, .inl (cI, 6, .inl (nA Rq)))]) (va_A [(m0, .inr (5, [.ref mw, .int (bi im), .ref mt, .int (nI tl), .ref ml, .ref mz, .ref mi, .ref mr, .int (nI at0), .int (nI st0), .int (nI nu), .int (nI rm), .int (nI rh), .ref md, .ref mh])), (mw, .inl (cI, 480, .inl (nA Bw))), (mr, .inl (cI, 6, .inl (nA Rs)))] sz)) 0 0 (va_A [(m0, .inr (5, [.ref mw, .int (bi im), .ref mt, .int (nI tl), .ref ml, .ref mz, .ref mi, .ref mr, .int (nI at0), .int (nI st0), .int (nI nu), .int (nI rm), .int (nI rh), .ref md, .ref mh])), (mw, .inl (cI, 480, .inl (nA Bw))), (mr, .inl (cI, 6, .inl (nA Rs)))] sz) := by
  refine Met.ofW (cc := cX5_take) (maxL := 4) (ret := (some .int)) (by decide) rfl ?_
  intro p e s m args below meth c s₁ B hml hv
  obtain ⟨rfl, hsz, hP, hKK, hD0⟩ := hv
  have hK := hKK.1
  have hx := B.exec
  have hb := B.bytes
  have hr := B.returns
  have hts := atoms_spec (ws := wsX5_take) B.pre
  have hown : s.vm.findClass RX5 = some m.cls := findClass_of_methodNamed B.named
  have hlocks := B.notSynchronized
  subst hsz
  have hD := hD0.self (sz := s.heap.size)
  generalize hAe : va_A [(m0, .inr (5, [.ref mw, .int (bi im), .ref mt, .int (nI tl), .ref ml, .ref mz, .ref mi, .ref mr, .int (nI at0), .int (nI st0), .int (nI nu), .int (nI rm), .int (nI rh), .ref md, .ref mh])), (mw, .inl (cI, 480, .inl (nA Bw))), (mr, .inl (cI, 6, .inl (nA Rs)))] s.heap.size = A at hD ⊢
  have hA : ∀ q : Nat, s.heap.size ≤ q → A q := fun q h => by rw [← hAe]; exact Or.inr h
  have hS : va_S A s.heap s.heap [] := va_S.rf
  have hP : va_P (dC, dI) vwCl [(m0, .inr (5, [.ref mw, .int (bi im), .ref mt, .int (nI tl), .ref ml, .ref mz, .ref mi, .ref mr, .int (nI at0), .int (nI st0), .int (nI nu), .int (nI rm), .int (nI rh), .ref md, .ref mh])), (mw, .inl (cI, 480, .inl (nA Bw))), (mr, .inl (cI, 6, .inl (nA Rs)))] s.heap := hP
  have hiX5 : ∀ w ∈ wsX50, w ∈ wsX5_take := by decide +kernel
  have hl := lv_entry ([.ref m0, .int (nI r), .int (nI o)]) (n := 4) (Nat.le_of_ble_eq_true rfl)
  rw [lg_entry_eq]
  generalize (lg_sl ([.ref m0, .int (nI r), .int (nI o)]) ++ List.replicate (4 - (lg_sl ([.ref m0, .int (nI r), .int (nI o)])).length) Slot.unset).toArray = ls at hl ⊢
  have hl : lv_has ls 4 [(0, .ref m0), (1, .int (nI r)), (2, .int (nI o))] := hl
  have hn6 := hm.n
  refine lv_iload_n hx hb dX5_take_0 rfl (lv_at hl 1 rfl) ?_
  refine rr_callR (va_runS (As := [.int (nI r)]) (rest := []) ⟨hx, hb, hml, hown, hts⟩ (c_X5_isRegister l (nI r) ) (va_cwS 1 hts gX5_take_X5_isRegister rfl rfl rfl (by decide +kernel) ⟨Nat.le_of_ble_eq_true rfl, Nat.le_of_ble_eq_true rfl⟩) rr_preT rfl rfl hl.1 rfl (lv_room (Nat.le_of_ble_eq_true rfl)) dX5_take_1 ⟨Nat.zero_le _, Nat.zero_le _⟩) ?_
  refine rr_top (y := bi true) (congrArg bi (inb_lt (by omega) (by omega))) ?_
  refine rb_if_eq (tgt := 19) hx hb dX5_take_4 (by decide) (fun c4 => ?_) (fun c4 => ?_)
  · exact absurd c4 (by decide)
  refine lv_iload_n hx hb dX5_take_7 rfl (lv_at hl 2 rfl) ?_
  refine rr_callR (va_runS (As := [.int (nI o)]) (rest := []) ⟨hx, hb, hml, hown, hts⟩ (c_X5_isRegister l (nI o) ) (va_cwS 1 hts gX5_take_X5_isRegister rfl rfl rfl (by decide +kernel) ⟨Nat.le_of_ble_eq_true rfl, Nat.le_of_ble_eq_true rfl⟩) rr_preT rfl rfl hl.1 rfl (lv_room (Nat.le_of_ble_eq_true rfl)) dX5_take_8 ⟨Nat.zero_le _, Nat.zero_le _⟩) ?_
  refine rr_top (y := bi true) (congrArg bi (inb_lt (by omega) (by omega))) ?_
  refine rb_if_eq (tgt := 19) hx hb dX5_take_11 (by decide) (fun c11 => ?_) (fun c11 => ?_)
  · exact absurd c11 (by decide)
  refine lv_iload_n hx hb dX5_take_14 rfl (lv_at hl 1 rfl) ?_
  refine lv_iload_n hx hb dX5_take_15 rfl (lv_at hl 2 rfl) ?_
  refine rn_icmp_ne (tgt := 21) hx hb dX5_take_16 (by decide) (by omega) (by omega) (fun c16 => ?_) (fun c16 => ?_)
  · skip
    refine lv_aload_n hx hb dX5_take_21 rfl (lv_at hl 0 rfl) ?_
    refine rw_callv (va_runV (As := []) (rest := []) ⟨hx, hb, hml, hown, hts⟩ (c_X5_minds l dC dI cI cJ cS _ m0 mw mt ml mz mi mr md mh im tl at0 st0 nu rm rh Bw (hm.2.2.2.1)) (cwV 0 hts gX5_take_X5_minds rfl rfl rfl (by decide +kernel) ⟨Nat.le_of_ble_eq_true rfl, Nat.le_of_ble_eq_true rfl⟩) (rw_preV hKK (hP.sub [0, 1] rfl) (hD.sub [0, 1] (by decide) rfl) rfl rfl) rfl rfl hl.1 rfl (lv_room (Nat.le_of_ble_eq_true rfl)) dX5_take_22 ⟨Nat.zero_le _, Nat.zero_le _⟩) (wr := [(mr, .inl (cI, 6, .inl (nA Rs)))]) hP hD hS hA [0, 1] [2] rfl rfl (by decide) (by decide) (fun H locs hP hD hS => ?_)
    have hP : va_P (dC, dI) vwCl [(m0, .inr (5, [.ref mw, .int (bi im), .ref mt, .int (nI tl), .ref ml, .ref mz, .ref mi, .ref mr, .int (nI at0), .int (nI st0), .int (nI nu), .int (nI rm), .int (nI rh), .ref md, .ref mh])), (mw, .inl (cI, 480, .inl (nA (mdB Bw)))), (mr, .inl (cI, 6, .inl (nA Rs)))] H := hP.sub [1, 2, 0] rfl
    have hD : va_D A [(m0, .inr (5, [.ref mw, .int (bi im), .ref mt, .int (nI tl), .ref ml, .ref mz, .ref mi, .ref mr, .int (nI at0), .int (nI st0), .int (nI nu), .int (nI rm), .int (nI rh), .ref md, .ref mh])), (mw, .inl (cI, 480, .inl (nA (mdB Bw)))), (mr, .inl (cI, 6, .inl (nA Rs)))] := hD.sub [1, 2, 0] (by decide) rfl
    refine lv_iconst (v := (nI 0)) hx hb dX5_take_25 (by decide) ?_
    refine lv_istore_n (lv' := [(3, .int (nI 0)), (0, .ref m0), (1, .int (nI r)), (2, .int (nI o))]) hx hb dX5_take_26 rfl hl (by decide) rfl (fun ls hl => ?_)
    have ec : nA (mdB Bw) = nA (rwB r (fun k => rsB Bw (o * 6 + k)) 0 (mdB Bw)) := rwB_0 _ _ _
    rw [ec] at hP hD
    have hP : va_P (dC, dI) vwCl [(m0, .inr (5, [.ref mw, .int (bi im), .ref mt, .int (nI tl), .ref ml, .ref mz, .ref mi, .ref mr, .int (nI at0), .int (nI st0), .int (nI nu), .int (nI rm), .int (nI rh), .ref md, .ref mh])), (mw, .inl (cI, 480, .inl (nA (rwB r (fun k => rsB Bw (o * 6 + k)) 0 (mdB Bw))))), (mr, .inl (cI, 6, .inl (nA Rs)))] H := hP
    have hD : va_D A [(m0, .inr (5, [.ref mw, .int (bi im), .ref mt, .int (nI tl), .ref ml, .ref mz, .ref mi, .ref mr, .int (nI at0), .int (nI st0), .int (nI nu), .int (nI rm), .int (nI rh), .ref md, .ref mh])), (mw, .inl (cI, 480, .inl (nA (rwB r (fun k => rsB Bw (o * 6 + k)) 0 (mdB Bw))))), (mr, .inl (cI, 6, .inl (nA Rs)))] := hD
    refine rlW1 (A1 := Nat) (fun H locs ls => W p l e _ s m _ below meth c H locs 0 0 _ (F0 m 27 ls [])) (fun k H locs ls => k ≤ 6 ∧ va_P (dC, dI) vwCl [(m0, .inr (5, [.ref mw, .int (bi im), .ref mt, .int (nI tl), .ref ml, .ref mz, .ref mi, .ref mr, .int (nI at0), .int (nI st0), .int (nI nu), .int (nI rm), .int (nI rh), .ref md, .ref mh])), (mw, .inl (cI, 480, .inl (nA (rwB r (fun k => rsB Bw (o * 6 + k)) k (mdB Bw))))), (mr, .inl (cI, 6, .inl (nA Rs)))] H ∧ va_D A [(m0, .inr (5, [.ref mw, .int (bi im), .ref mt, .int (nI tl), .ref ml, .ref mz, .ref mi, .ref mr, .int (nI at0), .int (nI st0), .int (nI nu), .int (nI rm), .int (nI rh), .ref md, .ref mh])), (mw, .inl (cI, 480, .inl (nA (rwB r (fun k => rsB Bw (o * 6 + k)) k (mdB Bw))))), (mr, .inl (cI, 6, .inl (nA Rs)))] ∧ va_S A s.heap H locs ∧ lv_has ls 4 [(3, .int (nI k)), (0, .ref m0), (1, .int (nI r)), (2, .int (nI o))]) (fun k => 6 - k) ?_ 0 H locs ls ⟨by omega, hP, hD, hS, lv_sub hl [0, 1, 2, 3] rfl⟩
    rintro k H locs ls ⟨hi, hP, hD, hS, hl⟩ ih27
    refine lv_iload_n hx hb dX5_take_27 rfl (lv_at hl 0 rfl) ?_
    refine lv_bipush (v := (nI 6)) hx hb dX5_take_28 (by decide) ?_
    refine rn_icmp_ge (tgt := 67) hx hb dX5_take_30 (by decide) (by omega) (by omega) (fun c30 => ?_) (fun c30 => ?_)
    · skip
      have ek : k = 6 := Nat.le_antisymm hi c30
      subst ek
      have hP : va_P (dC, dI) vwCl [(m0, .inr (5, [.ref mw, .int (bi im), .ref mt, .int (nI tl), .ref ml, .ref mz, .ref mi, .ref mr, .int (nI at0), .int (nI st0), .int (nI nu), .int (nI rm), .int (nI rh), .ref md, .ref mh])), (mw, .inl (cI, 480, .inl (nA (rwB r (fun k => rsB Bw (o * 6 + k)) (6) (mdB Bw))))), (mr, .inl (cI, 6, .inl (nA Rs)))] H := hP
      have hD : va_D A [(m0, .inr (5, [.ref mw, .int (bi im), .ref mt, .int (nI tl), .ref ml, .ref mz, .ref mi, .ref mr, .int (nI at0), .int (nI st0), .int (nI nu), .int (nI rm), .int (nI rh), .ref md, .ref mh])), (mw, .inl (cI, 480, .inl (nA (rwB r (fun k => rsB Bw (o * 6 + k)) (6) (mdB Bw))))), (mr, .inl (cI, 6, .inl (nA Rs)))] := hD
      have hmC : mOk (rwB r (fun k => rsB Bw (o * 6 + k)) (6) (mdB Bw)) := mOk_op hm hr4 (by omega) (fun k hk hk0 => hm.row ho4 k hk0)
      refine lv_aload_n hx hb dX5_take_67 rfl (lv_at hl 1 rfl) ?_
      refine lv_iload_n hx hb dX5_take_68 rfl (lv_at hl 2 rfl) ?_
      refine rw_calli (va_runV (As := [.int (nI r)]) (rest := []) ⟨hx, hb, hml, hown, hts⟩ (c_X5_value l dC dI cI cJ cS _ m0 mw mt ml mz mi mr md mh im tl at0 st0 nu rm rh (rwB r (fun k => rsB Bw (o * 6 + k)) (6) (mdB Bw)) Rs r (hmC) (by first | assumption | omega)) (cwV 1 hts gX5_take_X5_value rfl rfl rfl (by decide +kernel) ⟨Nat.le_of_ble_eq_true rfl, Nat.le_of_ble_eq_true rfl⟩) (rw_preV hKK hP hD rfl rfl) rfl rfl hl.1 rfl (lv_room (Nat.le_of_ble_eq_true rfl)) dX5_take_69 ⟨Nat.zero_le _, Nat.zero_le _⟩) (wr := []) hP hD hS hA [0, 1, 2] [] rfl rfl (by decide) (by decide) (fun H locs hP hD hS => ?_)
      have hP : va_P (dC, dI) vwCl [(m0, .inr (5, [.ref mw, .int (bi im), .ref mt, .int (nI tl), .ref ml, .ref mz, .ref mi, .ref mr, .int (nI at0), .int (nI st0), .int (nI nu), .int (nI rm), .int (nI rh), .ref md, .ref mh])), (mw, .inl (cI, 480, .inl (nA (rwB r (fun k => rsB Bw (o * 6 + k)) (6) (mdB Bw))))), (mr, .inl (cI, 6, .inl (nA (lkN (rwB r (fun k => rsB Bw (o * 6 + k)) (6) (mdB Bw)) r 6 Rs))))] H := hP.sub [0, 1, 2] rfl
      have hD : va_D A [(m0, .inr (5, [.ref mw, .int (bi im), .ref mt, .int (nI tl), .ref ml, .ref mz, .ref mi, .ref mr, .int (nI at0), .int (nI st0), .int (nI nu), .int (nI rm), .int (nI rh), .ref md, .ref mh])), (mw, .inl (cI, 480, .inl (nA (rwB r (fun k => rsB Bw (o * 6 + k)) (6) (mdB Bw))))), (mr, .inl (cI, 6, .inl (nA (lkN (rwB r (fun k => rsB Bw (o * 6 + k)) (6) (mdB Bw)) r 6 Rs))))] := hD.sub [0, 1, 2] (by decide) rfl
      exact rr_iretWs (u := (lkN (rwB r (fun k => rsB Bw (o * 6 + k)) (6) (mdB Bw)) r 6 Rs)) hx hb hr hlocks dX5_take_72 hP hD hS (rfl)
    refine lv_aload_n hx hb dX5_take_33 rfl (lv_at hl 1 rfl) ?_
    refine va_get (D := (dC, dI)) (ci := 5) (v := .ref mw) (C := RX5) (T := TX5) (N := 15) hx hb hts hiX5 hown hK hP 0 rfl rfl 0 (by decide) (hts (.fieldLink RX5 7 "RestRegistersModel" "w" "[I") (by decide +kernel)) (fun _ h9 => h9) rfl dX5_take_34 ?_
    refine lv_bipush (v := (nI 15)) hx hb dX5_take_37 (by decide) ?_
    refine lv_bipush (v := (nI 6)) hx hb dX5_take_39 (by decide) ?_
    refine lv_iload_n hx hb dX5_take_41 rfl (lv_at hl 2 rfl) ?_
    refine rn_imul hx hb dX5_take_42 ?_
    refine rn_iadd hx hb dX5_take_43 ?_
    refine lv_iload_n hx hb dX5_take_44 rfl (lv_at hl 0 rfl) ?_
    refine rn_iadd hx hb dX5_take_45 ?_
    refine lv_aload_n hx hb dX5_take_46 rfl (lv_at hl 1 rfl) ?_
    refine va_get (D := (dC, dI)) (ci := 5) (v := .ref mw) (C := RX5) (T := TX5) (N := 15) hx hb hts hiX5 hown hK hP 0 rfl rfl 0 (by decide) (hts (.fieldLink RX5 7 "RestRegistersModel" "w" "[I") (by decide +kernel)) (fun _ h9 => h9) rfl dX5_take_47 ?_
    refine lv_bipush (v := (nI 15)) hx hb dX5_take_50 (by decide) ?_
    refine lv_bipush (v := (nI 6)) hx hb dX5_take_52 (by decide) ?_
    refine lv_iload_n hx hb dX5_take_54 rfl (lv_at hl 3 rfl) ?_
    refine rn_imul hx hb dX5_take_55 ?_
    refine rn_iadd hx hb dX5_take_56 ?_
    refine lv_iload_n hx hb dX5_take_57 rfl (lv_at hl 0 rfl) ?_
    refine rn_iadd hx hb dX5_take_58 ?_
    refine rn_iald hx hb hK hP 1 0 rfl rfl (i := 15 + (6 * o) + k) (by omega) (by decide) (v := (nI (rsB Bw (o * 6 + k)))) ((rwB_at (by omega)).trans (congrArg nI (mdB_lo (by omega)))) dX5_take_59 ?_
    refine rn_iast hx hb hK hP hD hS 1 0 rfl rfl (i := 15 + (6 * r) + k) (by omega) (by decide) (g := nA (uN (rwB r (fun k => rsB Bw (o * 6 + k)) k (mdB Bw)) (15 + (6 * r) + k) (rsB Bw (o * 6 + k)))) (nA_upd _ _ _) dX5_take_60 (fun H locs hP hD hS => ?_)
    have hP : va_P (dC, dI) vwCl [(m0, .inr (5, [.ref mw, .int (bi im), .ref mt, .int (nI tl), .ref ml, .ref mz, .ref mi, .ref mr, .int (nI at0), .int (nI st0), .int (nI nu), .int (nI rm), .int (nI rh), .ref md, .ref mh])), (mw, .inl (cI, 480, .inl (nA (uN (rwB r (fun k => rsB Bw (o * 6 + k)) k (mdB Bw)) (15 + (6 * r) + k) (rsB Bw (o * 6 + k)))))), (mr, .inl (cI, 6, .inl (nA Rs)))] H := hP
    have hD : va_D A [(m0, .inr (5, [.ref mw, .int (bi im), .ref mt, .int (nI tl), .ref ml, .ref mz, .ref mi, .ref mr, .int (nI at0), .int (nI st0), .int (nI nu), .int (nI rm), .int (nI rh), .ref md, .ref mh])), (mw, .inl (cI, 480, .inl (nA (uN (rwB r (fun k => rsB Bw (o * 6 + k)) k (mdB Bw)) (15 + (6 * r) + k) (rsB Bw (o * 6 + k)))))), (mr, .inl (cI, 6, .inl (nA Rs)))] := hD
    have ec : nA (uN (rwB r (fun k => rsB Bw (o * 6 + k)) k (mdB Bw)) (15 + (6 * r) + k) (rsB Bw (o * 6 + k))) = nA (rwB r (fun k => rsB Bw (o * 6 + k)) (k + 1) (mdB Bw)) := rwB_s (rfl)
    rw [ec] at hP hD
    have hP : va_P (dC, dI) vwCl [(m0, .inr (5, [.ref mw, .int (bi im), .ref mt, .int (nI tl), .ref ml, .ref mz, .ref mi, .ref mr, .int (nI at0), .int (nI st0), .int (nI nu), .int (nI rm), .int (nI rh), .ref md, .ref mh])), (mw, .inl (cI, 480, .inl (nA (rwB r (fun k => rsB Bw (o * 6 + k)) (k + 1) (mdB Bw))))), (mr, .inl (cI, 6, .inl (nA Rs)))] H := hP
    have hD : va_D A [(m0, .inr (5, [.ref mw, .int (bi im), .ref mt, .int (nI tl), .ref ml, .ref mz, .ref mi, .ref mr, .int (nI at0), .int (nI st0), .int (nI nu), .int (nI rm), .int (nI rh), .ref md, .ref mh])), (mw, .inl (cI, 480, .inl (nA (rwB r (fun k => rsB Bw (o * 6 + k)) (k + 1) (mdB Bw))))), (mr, .inl (cI, 6, .inl (nA Rs)))] := hD
    refine lv_iinc (v := (nI (k + 1))) (lv' := [(3, .int (nI (k + 1))), (0, .ref m0), (1, .int (nI r)), (2, .int (nI o))]) hx hb dX5_take_61 hl (k := 0) rfl (rn_inc k 1) (by decide) rfl (fun ls hl => ?_)
    refine lv_goto (tgt := 27) hx hb dX5_take_64 (by decide) ?_
    exact ih27 (k + 1) _ _ ls ⟨by omega, hP, hD, hS, lv_sub hl [0, 1, 2, 3] rfl⟩ (by omega)
  exact absurd c16 hne
set_option maxHeartbeats 4000000 in
set_option maxRecDepth 100000 in
theorem c_X5_take_b (l : Launch) (dC : Nat → ClassId) (dI : Nat → Nat → Nat) (cI cJ cS : ClassId) (m0 mw mt ml mz mi mr md mh : Nat) (im : Bool) (tl at0 st0 nu rm rh : Nat) (Bw : Nat → Nat) (x y : Int32) (hm : mOk Bw) (hbad : (inb x 4 && inb y 4) = false) : Met l yX5_take wsX5_take ({ frames := 2, cells := 0, slots := 0, locals := 45 }) (va_Pc [.ref m0, .int x, .int y] (rB (dC, dI) vwCl [(m0, .inr (5, [.ref mw, .int (bi im), .ref mt, .int (nI tl), .ref ml, .ref mz, .ref mi, .ref mr, .int (nI at0), .int (nI st0), .int (nI nu), .int (nI rm), .int (nI rh), .ref md, .ref mh])), (mw, .inl (cI, 480, .inl (nA Bw)))] (tyz cI cJ cS))) (QcRead (-1)) 0 0 (fun _ => False) := by
  refine Met.ofW (cc := cX5_take) (maxL := 4) (ret := (some .int)) (by decide) rfl ?_
  intro p e s m args below meth c s₁ B hml hv
  obtain ⟨rfl, hP, hKK⟩ := hv
  have hK := hKK.1
  have hx := B.exec
  have hb := B.bytes
  have hr := B.returns
  have hts := atoms_spec (ws := wsX5_take) B.pre
  have hown : s.vm.findClass RX5 = some m.cls := findClass_of_methodNamed B.named
  have hlocks := B.notSynchronized
  have hiX5 : ∀ w ∈ wsX50, w ∈ wsX5_take := by decide +kernel
  have hl := lv_entry ([.ref m0, .int x, .int y]) (n := 4) (Nat.le_of_ble_eq_true rfl)
  rw [lg_entry_eq]
  generalize (lg_sl ([.ref m0, .int x, .int y]) ++ List.replicate (4 - (lg_sl ([.ref m0, .int x, .int y])).length) Slot.unset).toArray = ls at hl ⊢
  have hl : lv_has ls 4 [(0, .ref m0), (1, .int x), (2, .int y)] := hl
  have hn6 := hm.n
  refine lv_iload_n hx hb dX5_take_0 rfl (lv_at hl 1 rfl) ?_
  refine rr_callR (va_runS (As := [.int x]) (rest := []) ⟨hx, hb, hml, hown, hts⟩ (c_X5_isRegister l x ) (va_cwS 1 hts gX5_take_X5_isRegister rfl rfl rfl (by decide +kernel) ⟨Nat.le_of_ble_eq_true rfl, Nat.le_of_ble_eq_true rfl⟩) rr_preT rfl rfl hl.1 rfl (lv_room (Nat.le_of_ble_eq_true rfl)) dX5_take_1 ⟨Nat.zero_le _, Nat.zero_le _⟩) ?_
  refine rb_if_eq (tgt := 19) hx hb dX5_take_4 (by decide) (fun c4 => ?_) (fun c4 => ?_)
  · skip
    refine lv_iconst (v := (-1)) hx hb dX5_take_19 (by decide) ?_
    exact rr_iret hx hb hr hlocks dX5_take_20 (rfl)
  refine lv_iload_n hx hb dX5_take_7 rfl (lv_at hl 2 rfl) ?_
  refine rr_callR (va_runS (As := [.int y]) (rest := []) ⟨hx, hb, hml, hown, hts⟩ (c_X5_isRegister l y ) (va_cwS 1 hts gX5_take_X5_isRegister rfl rfl rfl (by decide +kernel) ⟨Nat.le_of_ble_eq_true rfl, Nat.le_of_ble_eq_true rfl⟩) rr_preT rfl rfl hl.1 rfl (lv_room (Nat.le_of_ble_eq_true rfl)) dX5_take_8 ⟨Nat.zero_le _, Nat.zero_le _⟩) ?_
  refine rb_if_eq (tgt := 19) hx hb dX5_take_11 (by decide) (fun c11 => ?_) (fun c11 => ?_)
  · skip
    refine lv_iconst (v := (-1)) hx hb dX5_take_19 (by decide) ?_
    exact rr_iret hx hb hr hlocks dX5_take_20 (rfl)
  exact absurd hbad (by rw [c4, c11]; decide)
set_option maxHeartbeats 4000000 in
set_option maxRecDepth 100000 in
theorem c_X5_take_s (l : Launch) (dC : Nat → ClassId) (dI : Nat → Nat → Nat) (cI cJ cS : ClassId) (m0 mw mt ml mz mi mr md mh : Nat) (im : Bool) (tl at0 st0 nu rm rh : Nat) (Bw : Nat → Nat) (r : Nat) (hm : mOk Bw) (hr4 : r < 4) : Met l yX5_take wsX5_take ({ frames := 2, cells := 0, slots := 0, locals := 45 }) (va_Pc [.ref m0, .int (nI r), .int (nI r)] (rB (dC, dI) vwCl [(m0, .inr (5, [.ref mw, .int (bi im), .ref mt, .int (nI tl), .ref ml, .ref mz, .ref mi, .ref mr, .int (nI at0), .int (nI st0), .int (nI nu), .int (nI rm), .int (nI rh), .ref md, .ref mh])), (mw, .inl (cI, 480, .inl (nA Bw)))] (tyz cI cJ cS))) (QcRead (-1)) 0 0 (fun _ => False) := by
  refine Met.ofW (cc := cX5_take) (maxL := 4) (ret := (some .int)) (by decide) rfl ?_
  intro p e s m args below meth c s₁ B hml hv
  obtain ⟨rfl, hP, hKK⟩ := hv
  have hK := hKK.1
  have hx := B.exec
  have hb := B.bytes
  have hr := B.returns
  have hts := atoms_spec (ws := wsX5_take) B.pre
  have hown : s.vm.findClass RX5 = some m.cls := findClass_of_methodNamed B.named
  have hlocks := B.notSynchronized
  have hiX5 : ∀ w ∈ wsX50, w ∈ wsX5_take := by decide +kernel
  have hl := lv_entry ([.ref m0, .int (nI r), .int (nI r)]) (n := 4) (Nat.le_of_ble_eq_true rfl)
  rw [lg_entry_eq]
  generalize (lg_sl ([.ref m0, .int (nI r), .int (nI r)]) ++ List.replicate (4 - (lg_sl ([.ref m0, .int (nI r), .int (nI r)])).length) Slot.unset).toArray = ls at hl ⊢
  have hl : lv_has ls 4 [(0, .ref m0), (1, .int (nI r)), (2, .int (nI r))] := hl
  refine lv_iload_n hx hb dX5_take_0 rfl (lv_at hl 1 rfl) ?_
  refine rr_callR (va_runS (As := [.int (nI r)]) (rest := []) ⟨hx, hb, hml, hown, hts⟩ (c_X5_isRegister l (nI r) ) (va_cwS 1 hts gX5_take_X5_isRegister rfl rfl rfl (by decide +kernel) ⟨Nat.le_of_ble_eq_true rfl, Nat.le_of_ble_eq_true rfl⟩) rr_preT rfl rfl hl.1 rfl (lv_room (Nat.le_of_ble_eq_true rfl)) dX5_take_1 ⟨Nat.zero_le _, Nat.zero_le _⟩) ?_
  refine rr_top (y := bi true) (congrArg bi (inb_lt (by omega) (by omega))) ?_
  refine rb_if_eq (tgt := 19) hx hb dX5_take_4 (by decide) (fun c4 => ?_) (fun c4 => ?_)
  · exact absurd c4 (by decide)
  refine lv_iload_n hx hb dX5_take_7 rfl (lv_at hl 2 rfl) ?_
  refine rr_callR (va_runS (As := [.int (nI r)]) (rest := []) ⟨hx, hb, hml, hown, hts⟩ (c_X5_isRegister l (nI r) ) (va_cwS 1 hts gX5_take_X5_isRegister rfl rfl rfl (by decide +kernel) ⟨Nat.le_of_ble_eq_true rfl, Nat.le_of_ble_eq_true rfl⟩) rr_preT rfl rfl hl.1 rfl (lv_room (Nat.le_of_ble_eq_true rfl)) dX5_take_8 ⟨Nat.zero_le _, Nat.zero_le _⟩) ?_
  refine rr_top (y := bi true) (congrArg bi (inb_lt (by omega) (by omega))) ?_
  refine rb_if_eq (tgt := 19) hx hb dX5_take_11 (by decide) (fun c11 => ?_) (fun c11 => ?_)
  · exact absurd c11 (by decide)
  refine lv_iload_n hx hb dX5_take_14 rfl (lv_at hl 1 rfl) ?_
  refine lv_iload_n hx hb dX5_take_15 rfl (lv_at hl 2 rfl) ?_
  refine rn_icmp_ne (tgt := 21) hx hb dX5_take_16 (by decide) (by omega) (by omega) (fun c16 => ?_) (fun c16 => ?_)
  · skip
    exact absurd rfl c16
  refine lv_iconst (v := (-1)) hx hb dX5_take_19 (by decide) ?_
  exact rr_iret hx hb hr hlocks dX5_take_20 (rfl)
set_option maxHeartbeats 4000000 in
set_option maxRecDepth 100000 in
theorem c_X5_slip_g (l : Launch) (dC : Nat → ClassId) (dI : Nat → Nat → Nat) (cI cJ cS : ClassId) (sz : Nat) (m0 mw mt ml mz mi mr md mh : Nat) (im : Bool) (tl at0 st0 nu rm rh : Nat) (Bw : Nat → Nat) (r k x : Nat) (hm : mOk Bw) (hr4 : r < 4) (hk2 : k < Bw 0) (hx2 : x < wdB Bw k) (hne : rsB Bw (r * 6 + k) ≠ x) : Met l yX5_slip wsX5_slip ({ frames := 2, cells := 0, slots := 0, locals := 46 }) (va_Pc [.ref m0, .int (nI r), .int (nI k), .int (nI x)] (rW (dC, dI) vwCl [(m0, .inr (5, [.ref mw, .int (bi im), .ref mt, .int (nI tl), .ref ml, .ref mz, .ref mi, .ref mr, .int (nI at0), .int (nI st0), .int (nI nu), .int (nI rm), .int (nI rh), .ref md, .ref mh])), (mw, .inl (cI, 480, .inl (nA Bw)))] (tyz cI cJ cS) sz)) (qI (nI (rsB Bw (r * 6 + k))) (dC, dI) vwCl [(m0, .inr (5, [.ref mw, .int (bi im), .ref mt, .int (nI tl), .ref ml, .ref mz, .ref mi, .ref mr, .int (nI at0), .int (nI st0), .int (nI nu), .int (nI rm), .int (nI rh), .ref md, .ref mh])), (mw, .inl (cI, 480, .inl (nA (uN (mdB Bw) (15 + (6 * r) + k) x))))] (va_A [(m0, .inr (5, [.ref mw, .int (bi im), .ref mt, .int (nI tl), .ref ml, .ref mz, .ref mi, .ref mr, .int (nI at0), .int (nI st0), .int (nI nu), .int (nI rm), .int (nI rh), .ref md, .ref mh])), (mw, .inl (cI, 480, .inl (nA Bw)))] sz)) 0 0 (va_A [(m0, .inr (5, [.ref mw, .int (bi im), .ref mt, .int (nI tl), .ref ml, .ref mz, .ref mi, .ref mr, .int (nI at0), .int (nI st0), .int (nI nu), .int (nI rm), .int (nI rh), .ref md, .ref mh])), (mw, .inl (cI, 480, .inl (nA Bw)))] sz) := by
  refine Met.ofW (cc := cX5_slip) (maxL := 5) (ret := (some .int)) (by decide) rfl ?_
  intro p e s m args below meth c s₁ B hml hv
  obtain ⟨rfl, hsz, hP, hKK, hD0⟩ := hv
  have hK := hKK.1
  have hx := B.exec
  have hb := B.bytes
  have hr := B.returns
  have hts := atoms_spec (ws := wsX5_slip) B.pre
  have hown : s.vm.findClass RX5 = some m.cls := findClass_of_methodNamed B.named
  have hlocks := B.notSynchronized
  subst hsz
  have hD := hD0.self (sz := s.heap.size)
  generalize hAe : va_A [(m0, .inr (5, [.ref mw, .int (bi im), .ref mt, .int (nI tl), .ref ml, .ref mz, .ref mi, .ref mr, .int (nI at0), .int (nI st0), .int (nI nu), .int (nI rm), .int (nI rh), .ref md, .ref mh])), (mw, .inl (cI, 480, .inl (nA Bw)))] s.heap.size = A at hD ⊢
  have hA : ∀ q : Nat, s.heap.size ≤ q → A q := fun q h => by rw [← hAe]; exact Or.inr h
  have hS : va_S A s.heap s.heap [] := va_S.rf
  have hP : va_P (dC, dI) vwCl [(m0, .inr (5, [.ref mw, .int (bi im), .ref mt, .int (nI tl), .ref ml, .ref mz, .ref mi, .ref mr, .int (nI at0), .int (nI st0), .int (nI nu), .int (nI rm), .int (nI rh), .ref md, .ref mh])), (mw, .inl (cI, 480, .inl (nA Bw)))] s.heap := hP
  have hiX5 : ∀ w ∈ wsX50, w ∈ wsX5_slip := by decide +kernel
  have hl := lv_entry ([.ref m0, .int (nI r), .int (nI k), .int (nI x)]) (n := 5) (Nat.le_of_ble_eq_true rfl)
  rw [lg_entry_eq]
  generalize (lg_sl ([.ref m0, .int (nI r), .int (nI k), .int (nI x)]) ++ List.replicate (5 - (lg_sl ([.ref m0, .int (nI r), .int (nI k), .int (nI x)])).length) Slot.unset).toArray = ls at hl ⊢
  have hl : lv_has ls 5 [(0, .ref m0), (1, .int (nI r)), (2, .int (nI k)), (3, .int (nI x))] := hl
  have hn6 := hm.n
  have hw9 := hm.wd k hk2
  have hrw := hm.row hr4 k hk2
  refine lv_iload_n hx hb dX5_slip_0 rfl (lv_at hl 1 rfl) ?_
  refine rr_callR (va_runS (As := [.int (nI r)]) (rest := []) ⟨hx, hb, hml, hown, hts⟩ (c_X5_isRegister l (nI r) ) (va_cwS 1 hts gX5_slip_X5_isRegister rfl rfl rfl (by decide +kernel) ⟨Nat.le_of_ble_eq_true rfl, Nat.le_of_ble_eq_true rfl⟩) rr_preT rfl rfl hl.1 rfl (lv_room (Nat.le_of_ble_eq_true rfl)) dX5_slip_1 ⟨Nat.zero_le _, Nat.zero_le _⟩) ?_
  refine rr_top (y := bi true) (congrArg bi (inb_lt (by omega) (by omega))) ?_
  refine rb_if_eq (tgt := 36) hx hb dX5_slip_4 (by decide) (fun c4 => ?_) (fun c4 => ?_)
  · exact absurd c4 (by decide)
  refine lv_aload_n hx hb dX5_slip_7 rfl (lv_at hl 0 rfl) ?_
  refine lv_iload_n hx hb dX5_slip_8 rfl (lv_at hl 2 rfl) ?_
  refine rr_callR (va_runV (As := [.int (nI k)]) (rest := []) ⟨hx, hb, hml, hown, hts⟩ (c_X5_isWheel l dC dI cI cJ cS m0 mw mt ml mz mi mr md mh im tl at0 st0 nu rm rh Bw (nI k) (by first | assumption | omega)) (cwV 1 hts gX5_slip_X5_isWheel rfl rfl rfl (by decide +kernel) ⟨Nat.le_of_ble_eq_true rfl, Nat.le_of_ble_eq_true rfl⟩) (rr_preV hKK hP rfl rfl) rfl rfl hl.1 rfl (lv_room (Nat.le_of_ble_eq_true rfl)) dX5_slip_9 ⟨Nat.zero_le _, Nat.zero_le _⟩) ?_
  refine rr_top (y := bi true) (congrArg bi (inb_lt (by omega) (by omega))) ?_
  refine rb_if_eq (tgt := 36) hx hb dX5_slip_12 (by decide) (fun c12 => ?_) (fun c12 => ?_)
  · exact absurd c12 (by decide)
  refine lv_iload_n hx hb dX5_slip_15 rfl (lv_at hl 3 rfl) ?_
  refine lv_i2l hx hb dX5_slip_16 rfl ?_
  refine lv_lconst (v := 0) hx hb dX5_slip_17 (by decide) ?_
  refine lv_aload_n hx hb dX5_slip_18 rfl (lv_at hl 0 rfl) ?_
  refine va_get (D := (dC, dI)) (ci := 5) (v := .ref mw) (C := RX5) (T := TX5) (N := 15) hx hb hts hiX5 hown hK hP 0 rfl rfl 0 (by decide) (hts (.fieldLink RX5 7 "RestRegistersModel" "w" "[I") (by decide +kernel)) (fun _ h9 => h9) rfl dX5_slip_19 ?_
  refine lv_bipush (v := (nI 8)) hx hb dX5_slip_22 (by decide) ?_
  refine lv_iload_n hx hb dX5_slip_24 rfl (lv_at hl 2 rfl) ?_
  refine rn_iadd hx hb dX5_slip_25 ?_
  refine rn_iald hx hb hK hP 1 0 rfl rfl (i := 8 + k) (by omega) (by decide) (v := (nI (wdB Bw k))) rfl dX5_slip_26 ?_
  have hv26 := hm.wd k (by omega)
  refine lv_iconst (v := (nI 1)) hx hb dX5_slip_27 (by decide) ?_
  refine lv_isub hx hb dX5_slip_28 ?_
  refine lv_i2l hx hb dX5_slip_29 rfl ?_
  refine rr_callR (va_runS (As := [.long ((nI x).toInt64), .long 0, .long (((nI (wdB Bw k)) - (nI 1)).toInt64)]) (rest := []) ⟨hx, hb, hml, hown, hts⟩ (c_X5_in l ((nI x).toInt64) 0 (((nI (wdB Bw k)) - (nI 1)).toInt64) ) (va_cwS 3 hts gX5_slip_X5_in rfl rfl rfl (by decide +kernel) ⟨Nat.le_of_ble_eq_true rfl, Nat.le_of_ble_eq_true rfl⟩) rr_preT rfl rfl hl.1 rfl (lv_room (Nat.le_of_ble_eq_true rfl)) dX5_slip_30 ⟨Nat.zero_le _, Nat.zero_le _⟩) ?_
  refine rr_top (y := bi (inb (nI x) (wdB Bw k))) (congrArg bi (inL_inb (by omega))) ?_
  refine rr_top (y := bi true) (congrArg bi (inb_lt (by omega) (by omega))) ?_
  refine rb_if_ne (tgt := 38) hx hb dX5_slip_33 (by decide) (fun c33 => ?_) (fun c33 => ?_)
  rotate_left
  · exact absurd c33 (by decide)
  refine lv_aload_n hx hb dX5_slip_38 rfl (lv_at hl 0 rfl) ?_
  refine va_get (D := (dC, dI)) (ci := 5) (v := .ref mw) (C := RX5) (T := TX5) (N := 15) hx hb hts hiX5 hown hK hP 0 rfl rfl 0 (by decide) (hts (.fieldLink RX5 7 "RestRegistersModel" "w" "[I") (by decide +kernel)) (fun _ h9 => h9) rfl dX5_slip_39 ?_
  refine lv_bipush (v := (nI 15)) hx hb dX5_slip_42 (by decide) ?_
  refine lv_bipush (v := (nI 6)) hx hb dX5_slip_44 (by decide) ?_
  refine lv_iload_n hx hb dX5_slip_46 rfl (lv_at hl 1 rfl) ?_
  refine rn_imul hx hb dX5_slip_47 ?_
  refine rn_iadd hx hb dX5_slip_48 ?_
  refine lv_iload_n hx hb dX5_slip_49 rfl (lv_at hl 2 rfl) ?_
  refine rn_iadd hx hb dX5_slip_50 ?_
  refine rn_iald hx hb hK hP 1 0 rfl rfl (i := 15 + (6 * r) + k) (by omega) (by decide) (v := (nI (rsB Bw (r * 6 + k)))) (rs_at _ _ _) dX5_slip_51 ?_
  refine lv_istore (lv' := [(4, .int (nI (rsB Bw (r * 6 + k)))), (0, .ref m0), (1, .int (nI r)), (2, .int (nI k)), (3, .int (nI x))]) hx hb dX5_slip_52 hl (by decide) rfl (fun ls hl => ?_)
  refine lv_iload hx hb dX5_slip_54 (lv_at hl 0 rfl) ?_
  refine lv_iload_n hx hb dX5_slip_56 rfl (lv_at hl 4 rfl) ?_
  refine rn_icmp_ne (tgt := 63) hx hb dX5_slip_57 (by decide) (by omega) (by omega) (fun c57 => ?_) (fun c57 => ?_)
  · skip
    refine lv_aload_n hx hb dX5_slip_63 rfl (lv_at hl 1 rfl) ?_
    refine rw_callv (va_runV (As := []) (rest := []) ⟨hx, hb, hml, hown, hts⟩ (c_X5_minds l dC dI cI cJ cS _ m0 mw mt ml mz mi mr md mh im tl at0 st0 nu rm rh Bw (hm.2.2.2.1)) (cwV 0 hts gX5_slip_X5_minds rfl rfl rfl (by decide +kernel) ⟨Nat.le_of_ble_eq_true rfl, Nat.le_of_ble_eq_true rfl⟩) (rw_preV hKK hP hD rfl rfl) rfl rfl hl.1 rfl (lv_room (Nat.le_of_ble_eq_true rfl)) dX5_slip_64 ⟨Nat.zero_le _, Nat.zero_le _⟩) (wr := []) hP hD hS hA [0, 1] [] rfl rfl (by decide) (by decide) (fun H locs hP hD hS => ?_)
    have hP : va_P (dC, dI) vwCl [(m0, .inr (5, [.ref mw, .int (bi im), .ref mt, .int (nI tl), .ref ml, .ref mz, .ref mi, .ref mr, .int (nI at0), .int (nI st0), .int (nI nu), .int (nI rm), .int (nI rh), .ref md, .ref mh])), (mw, .inl (cI, 480, .inl (nA (mdB Bw))))] H := hP.sub [0, 1] rfl
    have hD : va_D A [(m0, .inr (5, [.ref mw, .int (bi im), .ref mt, .int (nI tl), .ref ml, .ref mz, .ref mi, .ref mr, .int (nI at0), .int (nI st0), .int (nI nu), .int (nI rm), .int (nI rh), .ref md, .ref mh])), (mw, .inl (cI, 480, .inl (nA (mdB Bw))))] := hD.sub [0, 1] (by decide) rfl
    refine lv_aload_n hx hb dX5_slip_67 rfl (lv_at hl 1 rfl) ?_
    refine va_get (D := (dC, dI)) (ci := 5) (v := .ref mw) (C := RX5) (T := TX5) (N := 15) hx hb hts hiX5 hown hK hP 0 rfl rfl 0 (by decide) (hts (.fieldLink RX5 7 "RestRegistersModel" "w" "[I") (by decide +kernel)) (fun _ h9 => h9) rfl dX5_slip_68 ?_
    refine lv_bipush (v := (nI 15)) hx hb dX5_slip_71 (by decide) ?_
    refine lv_bipush (v := (nI 6)) hx hb dX5_slip_73 (by decide) ?_
    refine lv_iload_n hx hb dX5_slip_75 rfl (lv_at hl 2 rfl) ?_
    refine rn_imul hx hb dX5_slip_76 ?_
    refine rn_iadd hx hb dX5_slip_77 ?_
    refine lv_iload_n hx hb dX5_slip_78 rfl (lv_at hl 3 rfl) ?_
    refine rn_iadd hx hb dX5_slip_79 ?_
    refine lv_iload_n hx hb dX5_slip_80 rfl (lv_at hl 4 rfl) ?_
    refine rn_iast hx hb hK hP hD hS 1 0 rfl rfl (i := 15 + (6 * r) + k) (by omega) (by decide) (g := nA (uN (mdB Bw) (15 + (6 * r) + k) x)) (nA_upd _ _ _) dX5_slip_81 (fun H locs hP hD hS => ?_)
    have hP : va_P (dC, dI) vwCl [(m0, .inr (5, [.ref mw, .int (bi im), .ref mt, .int (nI tl), .ref ml, .ref mz, .ref mi, .ref mr, .int (nI at0), .int (nI st0), .int (nI nu), .int (nI rm), .int (nI rh), .ref md, .ref mh])), (mw, .inl (cI, 480, .inl (nA (uN (mdB Bw) (15 + (6 * r) + k) x))))] H := hP
    have hD : va_D A [(m0, .inr (5, [.ref mw, .int (bi im), .ref mt, .int (nI tl), .ref ml, .ref mz, .ref mi, .ref mr, .int (nI at0), .int (nI st0), .int (nI nu), .int (nI rm), .int (nI rh), .ref md, .ref mh])), (mw, .inl (cI, 480, .inl (nA (uN (mdB Bw) (15 + (6 * r) + k) x))))] := hD
    refine lv_iload hx hb dX5_slip_82 (lv_at hl 0 rfl) ?_
    exact rr_iretW hx hb hr hlocks dX5_slip_84 hP hD hS (rfl)
  exact absurd c57 hne
set_option maxHeartbeats 4000000 in
set_option maxRecDepth 100000 in
theorem c_X5_slip_n (l : Launch) (dC : Nat → ClassId) (dI : Nat → Nat → Nat) (cI cJ cS : ClassId) (m0 mw mt ml mz mi mr md mh : Nat) (im : Bool) (tl at0 st0 nu rm rh : Nat) (Bw : Nat → Nat) (r k x : Nat) (hm : mOk Bw) (hr4 : r < 4) (hk2 : k < Bw 0) (hx2 : x < wdB Bw k) (hne : rsB Bw (r * 6 + k) = x) : Met l yX5_slip wsX5_slip ({ frames := 2, cells := 0, slots := 0, locals := 46 }) (va_Pc [.ref m0, .int (nI r), .int (nI k), .int (nI x)] (rB (dC, dI) vwCl [(m0, .inr (5, [.ref mw, .int (bi im), .ref mt, .int (nI tl), .ref ml, .ref mz, .ref mi, .ref mr, .int (nI at0), .int (nI st0), .int (nI nu), .int (nI rm), .int (nI rh), .ref md, .ref mh])), (mw, .inl (cI, 480, .inl (nA Bw)))] (tyz cI cJ cS))) (QcRead (-2)) 0 0 (fun _ => False) := by
  refine Met.ofW (cc := cX5_slip) (maxL := 5) (ret := (some .int)) (by decide) rfl ?_
  intro p e s m args below meth c s₁ B hml hv
  obtain ⟨rfl, hP, hKK⟩ := hv
  have hK := hKK.1
  have hx := B.exec
  have hb := B.bytes
  have hr := B.returns
  have hts := atoms_spec (ws := wsX5_slip) B.pre
  have hown : s.vm.findClass RX5 = some m.cls := findClass_of_methodNamed B.named
  have hlocks := B.notSynchronized
  have hiX5 : ∀ w ∈ wsX50, w ∈ wsX5_slip := by decide +kernel
  have hl := lv_entry ([.ref m0, .int (nI r), .int (nI k), .int (nI x)]) (n := 5) (Nat.le_of_ble_eq_true rfl)
  rw [lg_entry_eq]
  generalize (lg_sl ([.ref m0, .int (nI r), .int (nI k), .int (nI x)]) ++ List.replicate (5 - (lg_sl ([.ref m0, .int (nI r), .int (nI k), .int (nI x)])).length) Slot.unset).toArray = ls at hl ⊢
  have hl : lv_has ls 5 [(0, .ref m0), (1, .int (nI r)), (2, .int (nI k)), (3, .int (nI x))] := hl
  have hn6 := hm.n
  have hw9 := hm.wd k hk2
  have hrw := hm.row hr4 k hk2
  refine lv_iload_n hx hb dX5_slip_0 rfl (lv_at hl 1 rfl) ?_
  refine rr_callR (va_runS (As := [.int (nI r)]) (rest := []) ⟨hx, hb, hml, hown, hts⟩ (c_X5_isRegister l (nI r) ) (va_cwS 1 hts gX5_slip_X5_isRegister rfl rfl rfl (by decide +kernel) ⟨Nat.le_of_ble_eq_true rfl, Nat.le_of_ble_eq_true rfl⟩) rr_preT rfl rfl hl.1 rfl (lv_room (Nat.le_of_ble_eq_true rfl)) dX5_slip_1 ⟨Nat.zero_le _, Nat.zero_le _⟩) ?_
  refine rr_top (y := bi true) (congrArg bi (inb_lt (by omega) (by omega))) ?_
  refine rb_if_eq (tgt := 36) hx hb dX5_slip_4 (by decide) (fun c4 => ?_) (fun c4 => ?_)
  · exact absurd c4 (by decide)
  refine lv_aload_n hx hb dX5_slip_7 rfl (lv_at hl 0 rfl) ?_
  refine lv_iload_n hx hb dX5_slip_8 rfl (lv_at hl 2 rfl) ?_
  refine rr_callR (va_runV (As := [.int (nI k)]) (rest := []) ⟨hx, hb, hml, hown, hts⟩ (c_X5_isWheel l dC dI cI cJ cS m0 mw mt ml mz mi mr md mh im tl at0 st0 nu rm rh Bw (nI k) (by first | assumption | omega)) (cwV 1 hts gX5_slip_X5_isWheel rfl rfl rfl (by decide +kernel) ⟨Nat.le_of_ble_eq_true rfl, Nat.le_of_ble_eq_true rfl⟩) (rr_preV hKK hP rfl rfl) rfl rfl hl.1 rfl (lv_room (Nat.le_of_ble_eq_true rfl)) dX5_slip_9 ⟨Nat.zero_le _, Nat.zero_le _⟩) ?_
  refine rr_top (y := bi true) (congrArg bi (inb_lt (by omega) (by omega))) ?_
  refine rb_if_eq (tgt := 36) hx hb dX5_slip_12 (by decide) (fun c12 => ?_) (fun c12 => ?_)
  · exact absurd c12 (by decide)
  refine lv_iload_n hx hb dX5_slip_15 rfl (lv_at hl 3 rfl) ?_
  refine lv_i2l hx hb dX5_slip_16 rfl ?_
  refine lv_lconst (v := 0) hx hb dX5_slip_17 (by decide) ?_
  refine lv_aload_n hx hb dX5_slip_18 rfl (lv_at hl 0 rfl) ?_
  refine va_get (D := (dC, dI)) (ci := 5) (v := .ref mw) (C := RX5) (T := TX5) (N := 15) hx hb hts hiX5 hown hK hP 0 rfl rfl 0 (by decide) (hts (.fieldLink RX5 7 "RestRegistersModel" "w" "[I") (by decide +kernel)) (fun _ h9 => h9) rfl dX5_slip_19 ?_
  refine lv_bipush (v := (nI 8)) hx hb dX5_slip_22 (by decide) ?_
  refine lv_iload_n hx hb dX5_slip_24 rfl (lv_at hl 2 rfl) ?_
  refine rn_iadd hx hb dX5_slip_25 ?_
  refine rn_iald hx hb hK hP 1 0 rfl rfl (i := 8 + k) (by omega) (by decide) (v := (nI (wdB Bw k))) rfl dX5_slip_26 ?_
  have hv26 := hm.wd k (by omega)
  refine lv_iconst (v := (nI 1)) hx hb dX5_slip_27 (by decide) ?_
  refine lv_isub hx hb dX5_slip_28 ?_
  refine lv_i2l hx hb dX5_slip_29 rfl ?_
  refine rr_callR (va_runS (As := [.long ((nI x).toInt64), .long 0, .long (((nI (wdB Bw k)) - (nI 1)).toInt64)]) (rest := []) ⟨hx, hb, hml, hown, hts⟩ (c_X5_in l ((nI x).toInt64) 0 (((nI (wdB Bw k)) - (nI 1)).toInt64) ) (va_cwS 3 hts gX5_slip_X5_in rfl rfl rfl (by decide +kernel) ⟨Nat.le_of_ble_eq_true rfl, Nat.le_of_ble_eq_true rfl⟩) rr_preT rfl rfl hl.1 rfl (lv_room (Nat.le_of_ble_eq_true rfl)) dX5_slip_30 ⟨Nat.zero_le _, Nat.zero_le _⟩) ?_
  refine rr_top (y := bi (inb (nI x) (wdB Bw k))) (congrArg bi (inL_inb (by omega))) ?_
  refine rr_top (y := bi true) (congrArg bi (inb_lt (by omega) (by omega))) ?_
  refine rb_if_ne (tgt := 38) hx hb dX5_slip_33 (by decide) (fun c33 => ?_) (fun c33 => ?_)
  rotate_left
  · exact absurd c33 (by decide)
  refine lv_aload_n hx hb dX5_slip_38 rfl (lv_at hl 0 rfl) ?_
  refine va_get (D := (dC, dI)) (ci := 5) (v := .ref mw) (C := RX5) (T := TX5) (N := 15) hx hb hts hiX5 hown hK hP 0 rfl rfl 0 (by decide) (hts (.fieldLink RX5 7 "RestRegistersModel" "w" "[I") (by decide +kernel)) (fun _ h9 => h9) rfl dX5_slip_39 ?_
  refine lv_bipush (v := (nI 15)) hx hb dX5_slip_42 (by decide) ?_
  refine lv_bipush (v := (nI 6)) hx hb dX5_slip_44 (by decide) ?_
  refine lv_iload_n hx hb dX5_slip_46 rfl (lv_at hl 1 rfl) ?_
  refine rn_imul hx hb dX5_slip_47 ?_
  refine rn_iadd hx hb dX5_slip_48 ?_
  refine lv_iload_n hx hb dX5_slip_49 rfl (lv_at hl 2 rfl) ?_
  refine rn_iadd hx hb dX5_slip_50 ?_
  refine rn_iald hx hb hK hP 1 0 rfl rfl (i := 15 + (6 * r) + k) (by omega) (by decide) (v := (nI (rsB Bw (r * 6 + k)))) (rs_at _ _ _) dX5_slip_51 ?_
  refine lv_istore (lv' := [(4, .int (nI (rsB Bw (r * 6 + k)))), (0, .ref m0), (1, .int (nI r)), (2, .int (nI k)), (3, .int (nI x))]) hx hb dX5_slip_52 hl (by decide) rfl (fun ls hl => ?_)
  refine lv_iload hx hb dX5_slip_54 (lv_at hl 0 rfl) ?_
  refine lv_iload_n hx hb dX5_slip_56 rfl (lv_at hl 4 rfl) ?_
  refine rn_icmp_ne (tgt := 63) hx hb dX5_slip_57 (by decide) (by omega) (by omega) (fun c57 => ?_) (fun c57 => ?_)
  · skip
    exact absurd hne c57
  refine lv_bipush (v := (-2)) hx hb dX5_slip_60 (by decide) ?_
  exact rr_iret hx hb hr hlocks dX5_slip_62 (rfl)
set_option maxHeartbeats 4000000 in
set_option maxRecDepth 100000 in
theorem c_X5_slip_b1 (l : Launch) (dC : Nat → ClassId) (dI : Nat → Nat → Nat) (cI cJ cS : ClassId) (m0 mw mt ml mz mi mr md mh : Nat) (im : Bool) (tl at0 st0 nu rm rh : Nat) (Bw : Nat → Nat) (x y z : Int32) (hm : mOk Bw) (hbad : (inb x 4 && inb y (Bw 0)) = false) : Met l yX5_slip wsX5_slip ({ frames := 2, cells := 0, slots := 0, locals := 46 }) (va_Pc [.ref m0, .int x, .int y, .int z] (rB (dC, dI) vwCl [(m0, .inr (5, [.ref mw, .int (bi im), .ref mt, .int (nI tl), .ref ml, .ref mz, .ref mi, .ref mr, .int (nI at0), .int (nI st0), .int (nI nu), .int (nI rm), .int (nI rh), .ref md, .ref mh])), (mw, .inl (cI, 480, .inl (nA Bw)))] (tyz cI cJ cS))) (QcRead (-1)) 0 0 (fun _ => False) := by
  refine Met.ofW (cc := cX5_slip) (maxL := 5) (ret := (some .int)) (by decide) rfl ?_
  intro p e s m args below meth c s₁ B hml hv
  obtain ⟨rfl, hP, hKK⟩ := hv
  have hK := hKK.1
  have hx := B.exec
  have hb := B.bytes
  have hr := B.returns
  have hts := atoms_spec (ws := wsX5_slip) B.pre
  have hown : s.vm.findClass RX5 = some m.cls := findClass_of_methodNamed B.named
  have hlocks := B.notSynchronized
  have hiX5 : ∀ w ∈ wsX50, w ∈ wsX5_slip := by decide +kernel
  have hl := lv_entry ([.ref m0, .int x, .int y, .int z]) (n := 5) (Nat.le_of_ble_eq_true rfl)
  rw [lg_entry_eq]
  generalize (lg_sl ([.ref m0, .int x, .int y, .int z]) ++ List.replicate (5 - (lg_sl ([.ref m0, .int x, .int y, .int z])).length) Slot.unset).toArray = ls at hl ⊢
  have hl : lv_has ls 5 [(0, .ref m0), (1, .int x), (2, .int y), (3, .int z)] := hl
  have hn6 := hm.n
  refine lv_iload_n hx hb dX5_slip_0 rfl (lv_at hl 1 rfl) ?_
  refine rr_callR (va_runS (As := [.int x]) (rest := []) ⟨hx, hb, hml, hown, hts⟩ (c_X5_isRegister l x ) (va_cwS 1 hts gX5_slip_X5_isRegister rfl rfl rfl (by decide +kernel) ⟨Nat.le_of_ble_eq_true rfl, Nat.le_of_ble_eq_true rfl⟩) rr_preT rfl rfl hl.1 rfl (lv_room (Nat.le_of_ble_eq_true rfl)) dX5_slip_1 ⟨Nat.zero_le _, Nat.zero_le _⟩) ?_
  refine rb_if_eq (tgt := 36) hx hb dX5_slip_4 (by decide) (fun c4 => ?_) (fun c4 => ?_)
  · skip
    refine lv_iconst (v := (-1)) hx hb dX5_slip_36 (by decide) ?_
    exact rr_iret hx hb hr hlocks dX5_slip_37 (rfl)
  refine lv_aload_n hx hb dX5_slip_7 rfl (lv_at hl 0 rfl) ?_
  refine lv_iload_n hx hb dX5_slip_8 rfl (lv_at hl 2 rfl) ?_
  refine rr_callR (va_runV (As := [.int y]) (rest := []) ⟨hx, hb, hml, hown, hts⟩ (c_X5_isWheel l dC dI cI cJ cS m0 mw mt ml mz mi mr md mh im tl at0 st0 nu rm rh Bw y (by first | assumption | omega)) (cwV 1 hts gX5_slip_X5_isWheel rfl rfl rfl (by decide +kernel) ⟨Nat.le_of_ble_eq_true rfl, Nat.le_of_ble_eq_true rfl⟩) (rr_preV hKK hP rfl rfl) rfl rfl hl.1 rfl (lv_room (Nat.le_of_ble_eq_true rfl)) dX5_slip_9 ⟨Nat.zero_le _, Nat.zero_le _⟩) ?_
  refine rb_if_eq (tgt := 36) hx hb dX5_slip_12 (by decide) (fun c12 => ?_) (fun c12 => ?_)
  · skip
    refine lv_iconst (v := (-1)) hx hb dX5_slip_36 (by decide) ?_
    exact rr_iret hx hb hr hlocks dX5_slip_37 (rfl)
  exact absurd hbad (by rw [c4, c12]; decide)
set_option maxHeartbeats 4000000 in
set_option maxRecDepth 100000 in
theorem c_X5_slip_b2 (l : Launch) (dC : Nat → ClassId) (dI : Nat → Nat → Nat) (cI cJ cS : ClassId) (m0 mw mt ml mz mi mr md mh : Nat) (im : Bool) (tl at0 st0 nu rm rh : Nat) (Bw : Nat → Nat) (r k : Nat) (z : Int32) (hm : mOk Bw) (hr4 : r < 4) (hk2 : k < Bw 0) (hbad : (inb z (wdB Bw k)) = false) : Met l yX5_slip wsX5_slip ({ frames := 2, cells := 0, slots := 0, locals := 46 }) (va_Pc [.ref m0, .int (nI r), .int (nI k), .int z] (rB (dC, dI) vwCl [(m0, .inr (5, [.ref mw, .int (bi im), .ref mt, .int (nI tl), .ref ml, .ref mz, .ref mi, .ref mr, .int (nI at0), .int (nI st0), .int (nI nu), .int (nI rm), .int (nI rh), .ref md, .ref mh])), (mw, .inl (cI, 480, .inl (nA Bw)))] (tyz cI cJ cS))) (QcRead (-1)) 0 0 (fun _ => False) := by
  refine Met.ofW (cc := cX5_slip) (maxL := 5) (ret := (some .int)) (by decide) rfl ?_
  intro p e s m args below meth c s₁ B hml hv
  obtain ⟨rfl, hP, hKK⟩ := hv
  have hK := hKK.1
  have hx := B.exec
  have hb := B.bytes
  have hr := B.returns
  have hts := atoms_spec (ws := wsX5_slip) B.pre
  have hown : s.vm.findClass RX5 = some m.cls := findClass_of_methodNamed B.named
  have hlocks := B.notSynchronized
  have hiX5 : ∀ w ∈ wsX50, w ∈ wsX5_slip := by decide +kernel
  have hl := lv_entry ([.ref m0, .int (nI r), .int (nI k), .int z]) (n := 5) (Nat.le_of_ble_eq_true rfl)
  rw [lg_entry_eq]
  generalize (lg_sl ([.ref m0, .int (nI r), .int (nI k), .int z]) ++ List.replicate (5 - (lg_sl ([.ref m0, .int (nI r), .int (nI k), .int z])).length) Slot.unset).toArray = ls at hl ⊢
  have hl : lv_has ls 5 [(0, .ref m0), (1, .int (nI r)), (2, .int (nI k)), (3, .int z)] := hl
  have hn6 := hm.n
  have hw9 := hm.wd k hk2
  refine lv_iload_n hx hb dX5_slip_0 rfl (lv_at hl 1 rfl) ?_
  refine rr_callR (va_runS (As := [.int (nI r)]) (rest := []) ⟨hx, hb, hml, hown, hts⟩ (c_X5_isRegister l (nI r) ) (va_cwS 1 hts gX5_slip_X5_isRegister rfl rfl rfl (by decide +kernel) ⟨Nat.le_of_ble_eq_true rfl, Nat.le_of_ble_eq_true rfl⟩) rr_preT rfl rfl hl.1 rfl (lv_room (Nat.le_of_ble_eq_true rfl)) dX5_slip_1 ⟨Nat.zero_le _, Nat.zero_le _⟩) ?_
  refine rr_top (y := bi true) (congrArg bi (inb_lt (by omega) (by omega))) ?_
  refine rb_if_eq (tgt := 36) hx hb dX5_slip_4 (by decide) (fun c4 => ?_) (fun c4 => ?_)
  · exact absurd c4 (by decide)
  refine lv_aload_n hx hb dX5_slip_7 rfl (lv_at hl 0 rfl) ?_
  refine lv_iload_n hx hb dX5_slip_8 rfl (lv_at hl 2 rfl) ?_
  refine rr_callR (va_runV (As := [.int (nI k)]) (rest := []) ⟨hx, hb, hml, hown, hts⟩ (c_X5_isWheel l dC dI cI cJ cS m0 mw mt ml mz mi mr md mh im tl at0 st0 nu rm rh Bw (nI k) (by first | assumption | omega)) (cwV 1 hts gX5_slip_X5_isWheel rfl rfl rfl (by decide +kernel) ⟨Nat.le_of_ble_eq_true rfl, Nat.le_of_ble_eq_true rfl⟩) (rr_preV hKK hP rfl rfl) rfl rfl hl.1 rfl (lv_room (Nat.le_of_ble_eq_true rfl)) dX5_slip_9 ⟨Nat.zero_le _, Nat.zero_le _⟩) ?_
  refine rr_top (y := bi true) (congrArg bi (inb_lt (by omega) (by omega))) ?_
  refine rb_if_eq (tgt := 36) hx hb dX5_slip_12 (by decide) (fun c12 => ?_) (fun c12 => ?_)
  · exact absurd c12 (by decide)
  refine lv_iload_n hx hb dX5_slip_15 rfl (lv_at hl 3 rfl) ?_
  refine lv_i2l hx hb dX5_slip_16 rfl ?_
  refine lv_lconst (v := 0) hx hb dX5_slip_17 (by decide) ?_
  refine lv_aload_n hx hb dX5_slip_18 rfl (lv_at hl 0 rfl) ?_
  refine va_get (D := (dC, dI)) (ci := 5) (v := .ref mw) (C := RX5) (T := TX5) (N := 15) hx hb hts hiX5 hown hK hP 0 rfl rfl 0 (by decide) (hts (.fieldLink RX5 7 "RestRegistersModel" "w" "[I") (by decide +kernel)) (fun _ h9 => h9) rfl dX5_slip_19 ?_
  refine lv_bipush (v := (nI 8)) hx hb dX5_slip_22 (by decide) ?_
  refine lv_iload_n hx hb dX5_slip_24 rfl (lv_at hl 2 rfl) ?_
  refine rn_iadd hx hb dX5_slip_25 ?_
  refine rn_iald hx hb hK hP 1 0 rfl rfl (i := 8 + k) (by omega) (by decide) (v := (nI (wdB Bw k))) rfl dX5_slip_26 ?_
  have hv26 := hm.wd k (by omega)
  refine lv_iconst (v := (nI 1)) hx hb dX5_slip_27 (by decide) ?_
  refine lv_isub hx hb dX5_slip_28 ?_
  refine lv_i2l hx hb dX5_slip_29 rfl ?_
  refine rr_callR (va_runS (As := [.long z.toInt64, .long 0, .long (((nI (wdB Bw k)) - (nI 1)).toInt64)]) (rest := []) ⟨hx, hb, hml, hown, hts⟩ (c_X5_in l z.toInt64 0 (((nI (wdB Bw k)) - (nI 1)).toInt64) ) (va_cwS 3 hts gX5_slip_X5_in rfl rfl rfl (by decide +kernel) ⟨Nat.le_of_ble_eq_true rfl, Nat.le_of_ble_eq_true rfl⟩) rr_preT rfl rfl hl.1 rfl (lv_room (Nat.le_of_ble_eq_true rfl)) dX5_slip_30 ⟨Nat.zero_le _, Nat.zero_le _⟩) ?_
  refine rr_top (y := bi (inb z (wdB Bw k))) (congrArg bi (inL_inb (by omega))) ?_
  refine rb_if_ne (tgt := 38) hx hb dX5_slip_33 (by decide) (fun c33 => ?_) (fun c33 => ?_)
  · skip
    exact absurd hbad (by rw [c33]; decide)
  refine lv_iconst (v := (-1)) hx hb dX5_slip_36 (by decide) ?_
  exact rr_iret hx hb hr hlocks dX5_slip_37 (rfl)
set_option maxHeartbeats 4000000 in
set_option maxRecDepth 100000 in
theorem c_X5_drifts (l : Launch) (dC : Nat → ClassId) (dI : Nat → Nat → Nat) (cI cJ cS : ClassId) (sz : Nat) (m0 mw mt ml mz mi mr md mh : Nat) (im : Bool) (tl at0 st0 nu rm rh : Nat) (Bw : Nat → Nat) (hm : mOk Bw) : Met l yX5_drifts wsX5_drifts ({ frames := 5, cells := 0, slots := 0, locals := 114 }) (va_Pc [.ref m0] (rW (dC, dI) vwCl [(m0, .inr (5, [.ref mw, .int (bi im), .ref mt, .int (nI tl), .ref ml, .ref mz, .ref mi, .ref mr, .int (nI at0), .int (nI st0), .int (nI nu), .int (nI rm), .int (nI rh), .ref md, .ref mh])), (mw, .inl (cI, 480, .inl (nA Bw)))] (tyz cI cJ cS) sz)) (qV (dC, dI) vwCl [(m0, .inr (5, [.ref mw, .int (bi im), .ref mt, .int (nI tl), .ref ml, .ref mz, .ref mi, .ref mr, .int (nI at0), .int (nI st0), .int (nI nu), .int (nI rm), .int (nI rh), .ref md, .ref mh])), (mw, .inl (cI, 480, .inl (nA (dfB Bw))))] (va_A [(m0, .inr (5, [.ref mw, .int (bi im), .ref mt, .int (nI tl), .ref ml, .ref mz, .ref mi, .ref mr, .int (nI at0), .int (nI st0), .int (nI nu), .int (nI rm), .int (nI rh), .ref md, .ref mh])), (mw, .inl (cI, 480, .inl (nA Bw)))] sz)) 0 0 (va_A [(m0, .inr (5, [.ref mw, .int (bi im), .ref mt, .int (nI tl), .ref ml, .ref mz, .ref mi, .ref mr, .int (nI at0), .int (nI st0), .int (nI nu), .int (nI rm), .int (nI rh), .ref md, .ref mh])), (mw, .inl (cI, 480, .inl (nA Bw)))] sz) := by
  refine Met.ofW (cc := cX5_drifts) (maxL := 4) (ret := none) (by decide) rfl ?_
  intro p e s m args below meth c s₁ B hml hv
  obtain ⟨rfl, hsz, hP, hKK, hD0⟩ := hv
  have hK := hKK.1
  have hx := B.exec
  have hb := B.bytes
  have hr := B.returns
  have hts := atoms_spec (ws := wsX5_drifts) B.pre
  have hown : s.vm.findClass RX5 = some m.cls := findClass_of_methodNamed B.named
  have hlocks := B.notSynchronized
  subst hsz
  have hD := hD0.self (sz := s.heap.size)
  generalize hAe : va_A [(m0, .inr (5, [.ref mw, .int (bi im), .ref mt, .int (nI tl), .ref ml, .ref mz, .ref mi, .ref mr, .int (nI at0), .int (nI st0), .int (nI nu), .int (nI rm), .int (nI rh), .ref md, .ref mh])), (mw, .inl (cI, 480, .inl (nA Bw)))] s.heap.size = A at hD ⊢
  have hA : ∀ q : Nat, s.heap.size ≤ q → A q := fun q h => by rw [← hAe]; exact Or.inr h
  have hS : va_S A s.heap s.heap [] := va_S.rf
  have hP : va_P (dC, dI) vwCl [(m0, .inr (5, [.ref mw, .int (bi im), .ref mt, .int (nI tl), .ref ml, .ref mz, .ref mi, .ref mr, .int (nI at0), .int (nI st0), .int (nI nu), .int (nI rm), .int (nI rh), .ref md, .ref mh])), (mw, .inl (cI, 480, .inl (nA Bw)))] s.heap := hP
  have hiX5 : ∀ w ∈ wsX50, w ∈ wsX5_drifts := by decide +kernel
  have hl := lv_entry ([.ref m0]) (n := 4) (Nat.le_of_ble_eq_true rfl)
  rw [lg_entry_eq]
  generalize (lg_sl ([.ref m0]) ++ List.replicate (4 - (lg_sl ([.ref m0])).length) Slot.unset).toArray = ls at hl ⊢
  have hl : lv_has ls 4 [(0, .ref m0)] := hl
  have hn6 := hm.n
  refine lv_aload_n hx hb dX5_drifts_0 rfl (lv_at hl 0 rfl) ?_
  refine rw_callv (va_runV (As := []) (rest := []) ⟨hx, hb, hml, hown, hts⟩ (c_X5_minds l dC dI cI cJ cS _ m0 mw mt ml mz mi mr md mh im tl at0 st0 nu rm rh Bw (hm.2.2.2.1)) (cwV 0 hts gX5_drifts_X5_minds rfl rfl rfl (by decide +kernel) ⟨Nat.le_of_ble_eq_true rfl, Nat.le_of_ble_eq_true rfl⟩) (rw_preV hKK hP hD rfl rfl) rfl rfl hl.1 rfl (lv_room (Nat.le_of_ble_eq_true rfl)) dX5_drifts_1 ⟨Nat.zero_le _, Nat.zero_le _⟩) (wr := []) hP hD hS hA [0, 1] [] rfl rfl (by decide) (by decide) (fun H locs hP hD hS => ?_)
  have hP : va_P (dC, dI) vwCl [(m0, .inr (5, [.ref mw, .int (bi im), .ref mt, .int (nI tl), .ref ml, .ref mz, .ref mi, .ref mr, .int (nI at0), .int (nI st0), .int (nI nu), .int (nI rm), .int (nI rh), .ref md, .ref mh])), (mw, .inl (cI, 480, .inl (nA (mdB Bw))))] H := hP.sub [0, 1] rfl
  have hD : va_D A [(m0, .inr (5, [.ref mw, .int (bi im), .ref mt, .int (nI tl), .ref ml, .ref mz, .ref mi, .ref mr, .int (nI at0), .int (nI st0), .int (nI nu), .int (nI rm), .int (nI rh), .ref md, .ref mh])), (mw, .inl (cI, 480, .inl (nA (mdB Bw))))] := hD.sub [0, 1] (by decide) rfl
  refine lv_aload_n hx hb dX5_drifts_4 rfl (lv_at hl 0 rfl) ?_
  refine va_get (D := (dC, dI)) (ci := 5) (v := .ref mw) (C := RX5) (T := TX5) (N := 15) hx hb hts hiX5 hown hK hP 0 rfl rfl 0 (by decide) (hts (.fieldLink RX5 7 "RestRegistersModel" "w" "[I") (by decide +kernel)) (fun _ h9 => h9) rfl dX5_drifts_5 ?_
  refine lv_bipush (v := (nI 14)) hx hb dX5_drifts_8 (by decide) ?_
  refine rn_iald hx hb hK hP 1 0 rfl rfl (i := 14) (by omega) (by decide) (v := (nI (Bw 14))) (congrArg nI (mdB_lo (by omega))) dX5_drifts_10 ?_
  refine lv_ldc (v := 1103515245) hx hb hown (hts (.constant RX5 162 (1103515245)) (by decide +kernel)) dX5_drifts_11 ?_
  refine rr_top (y := nI 1103515245) (by decide) ?_
  refine rn_imul hx hb dX5_drifts_13 ?_
  refine lv_sipush (v := (nI 12345)) hx hb dX5_drifts_14 (by decide) ?_
  refine rn_iadd hx hb dX5_drifts_17 ?_
  refine lv_ldc (v := 2147483647) hx hb hown (hts (.constant RX5 163 (2147483647)) (by decide +kernel)) dX5_drifts_18 ?_
  refine rr_top (y := nI 2147483647) (by decide) ?_
  refine lv_iand hx hb dX5_drifts_20 ?_
  refine rr_top (y := (nI (lcg (Bw 14)))) (and31 _) ?_
  have hd31 : lcg (Bw 14) < 2 ^ 31 := lcg_lt _
  refine lv_istore_n (lv' := [(1, .int (nI (lcg (Bw 14)))), (0, .ref m0)]) hx hb dX5_drifts_21 rfl hl (by decide) rfl (fun ls hl => ?_)
  refine lv_aload_n hx hb dX5_drifts_22 rfl (lv_at hl 1 rfl) ?_
  refine va_get (D := (dC, dI)) (ci := 5) (v := .ref mw) (C := RX5) (T := TX5) (N := 15) hx hb hts hiX5 hown hK hP 0 rfl rfl 0 (by decide) (hts (.fieldLink RX5 7 "RestRegistersModel" "w" "[I") (by decide +kernel)) (fun _ h9 => h9) rfl dX5_drifts_23 ?_
  refine lv_bipush (v := (nI 14)) hx hb dX5_drifts_26 (by decide) ?_
  refine lv_iload_n hx hb dX5_drifts_28 rfl (lv_at hl 0 rfl) ?_
  refine rn_iast hx hb hK hP hD hS 1 0 rfl rfl (i := 14) (by omega) (by decide) (g := nA (uN (mdB Bw) 14 (lcg (Bw 14)))) (nA_upd _ _ _) dX5_drifts_29 (fun H locs hP hD hS => ?_)
  have hP : va_P (dC, dI) vwCl [(m0, .inr (5, [.ref mw, .int (bi im), .ref mt, .int (nI tl), .ref ml, .ref mz, .ref mi, .ref mr, .int (nI at0), .int (nI st0), .int (nI nu), .int (nI rm), .int (nI rh), .ref md, .ref mh])), (mw, .inl (cI, 480, .inl (nA (uN (mdB Bw) 14 (lcg (Bw 14))))))] H := hP
  have hD : va_D A [(m0, .inr (5, [.ref mw, .int (bi im), .ref mt, .int (nI tl), .ref ml, .ref mz, .ref mi, .ref mr, .int (nI at0), .int (nI st0), .int (nI nu), .int (nI rm), .int (nI rh), .ref md, .ref mh])), (mw, .inl (cI, 480, .inl (nA (uN (mdB Bw) 14 (lcg (Bw 14))))))] := hD
  refine lv_iload_n hx hb dX5_drifts_30 rfl (lv_at hl 0 rfl) ?_
  refine lv_ldc (v := 65536) hx hb hown (hts (.constant RX5 164 (65536)) (by decide +kernel)) dX5_drifts_31 ?_
  refine rr_top (y := nI 65536) (by decide) ?_
  refine rn_idiv hx hb dX5_drifts_33 (by omega) (by omega) (by omega) ?_
  refine lv_iconst (v := (nI 4)) hx hb dX5_drifts_34 (by decide) ?_
  refine rn_irem hx hb dX5_drifts_35 (by omega) (by omega) (by omega) ?_
  refine lv_istore_n (lv' := [(2, .int (nI (((lcg (Bw 14)) / 65536) % 4))), (1, .int (nI (lcg (Bw 14)))), (0, .ref m0)]) hx hb dX5_drifts_36 rfl hl (by decide) rfl (fun ls hl => ?_)
  refine lv_aload_n hx hb dX5_drifts_37 rfl (lv_at hl 2 rfl) ?_
  refine lv_iload_n hx hb dX5_drifts_38 rfl (lv_at hl 0 rfl) ?_
  refine lv_iload_n hx hb dX5_drifts_39 rfl (lv_at hl 1 rfl) ?_
  refine lv_sipush (v := (nI 128)) hx hb dX5_drifts_40 (by decide) ?_
  refine rn_idiv hx hb dX5_drifts_43 (by omega) (by omega) (by omega) ?_
  refine lv_iconst (v := (nI 4)) hx hb dX5_drifts_44 (by decide) ?_
  refine rn_irem hx hb dX5_drifts_45 (by omega) (by omega) (by omega) ?_
  refine rw_callv (va_runV (As := [.int (nI (((lcg (Bw 14)) / 65536) % 4)), .int (nI (((lcg (Bw 14)) / 128) % 4))]) (rest := []) ⟨hx, hb, hml, hown, hts⟩ (c_X5_adds l dC dI cI cJ cS _ m0 mw mt ml mz mi mr md mh im tl at0 st0 nu rm rh (uN (mdB Bw) 14 (lcg (Bw 14))) (((lcg (Bw 14)) / 65536) % 4) (((lcg (Bw 14)) / 128) % 4) (mOk_14 (mOk_md hm) hd31) (by first | assumption | omega) (by first | assumption | omega)) (cwV 2 hts gX5_drifts_X5_adds rfl rfl rfl (by decide +kernel) ⟨Nat.le_of_ble_eq_true rfl, Nat.le_of_ble_eq_true rfl⟩) (rw_preV hKK hP hD rfl rfl) rfl rfl hl.1 rfl (lv_room (Nat.le_of_ble_eq_true rfl)) dX5_drifts_46 ⟨Nat.zero_le _, Nat.zero_le _⟩) (wr := []) hP hD hS hA [0, 1] [] rfl rfl (by decide) (by decide) (fun H locs hP hD hS => ?_)
  have hP : va_P (dC, dI) vwCl [(m0, .inr (5, [.ref mw, .int (bi im), .ref mt, .int (nI tl), .ref ml, .ref mz, .ref mi, .ref mr, .int (nI at0), .int (nI st0), .int (nI nu), .int (nI rm), .int (nI rh), .ref md, .ref mh])), (mw, .inl (cI, 480, .inl (nA (rwB (((lcg (Bw 14)) / 65536) % 4) (adF (kdB (uN (mdB Bw) 14 (lcg (Bw 14)))) (wdB (uN (mdB Bw) 14 (lcg (Bw 14)))) (rsB (uN (mdB Bw) 14 (lcg (Bw 14)))) (((lcg (Bw 14)) / 65536) % 4) (((lcg (Bw 14)) / 128) % 4)) ((uN (mdB Bw) 14 (lcg (Bw 14))) 0) (uN (mdB Bw) 14 (lcg (Bw 14)))))))] H := hP.sub [0, 1] rfl
  have hD : va_D A [(m0, .inr (5, [.ref mw, .int (bi im), .ref mt, .int (nI tl), .ref ml, .ref mz, .ref mi, .ref mr, .int (nI at0), .int (nI st0), .int (nI nu), .int (nI rm), .int (nI rh), .ref md, .ref mh])), (mw, .inl (cI, 480, .inl (nA (rwB (((lcg (Bw 14)) / 65536) % 4) (adF (kdB (uN (mdB Bw) 14 (lcg (Bw 14)))) (wdB (uN (mdB Bw) 14 (lcg (Bw 14)))) (rsB (uN (mdB Bw) 14 (lcg (Bw 14)))) (((lcg (Bw 14)) / 65536) % 4) (((lcg (Bw 14)) / 128) % 4)) ((uN (mdB Bw) 14 (lcg (Bw 14))) 0) (uN (mdB Bw) 14 (lcg (Bw 14)))))))] := hD.sub [0, 1] (by decide) rfl
  have ec : nA (rwB (((lcg (Bw 14)) / 65536) % 4) (adF (kdB (uN (mdB Bw) 14 (lcg (Bw 14)))) (wdB (uN (mdB Bw) 14 (lcg (Bw 14)))) (rsB (uN (mdB Bw) 14 (lcg (Bw 14)))) (((lcg (Bw 14)) / 65536) % 4) (((lcg (Bw 14)) / 128) % 4)) ((uN (mdB Bw) 14 (lcg (Bw 14))) 0) (uN (mdB Bw) 14 (lcg (Bw 14)))) = nA (dfC0 Bw (lcg (Bw 14))) := md_df hm.n
  rw [ec] at hP hD
  have hP : va_P (dC, dI) vwCl [(m0, .inr (5, [.ref mw, .int (bi im), .ref mt, .int (nI tl), .ref ml, .ref mz, .ref mi, .ref mr, .int (nI at0), .int (nI st0), .int (nI nu), .int (nI rm), .int (nI rh), .ref md, .ref mh])), (mw, .inl (cI, 480, .inl (nA (dfC0 Bw (lcg (Bw 14))))))] H := hP
  have hD : va_D A [(m0, .inr (5, [.ref mw, .int (bi im), .ref mt, .int (nI tl), .ref ml, .ref mz, .ref mi, .ref mr, .int (nI at0), .int (nI st0), .int (nI nu), .int (nI rm), .int (nI rh), .ref md, .ref mh])), (mw, .inl (cI, 480, .inl (nA (dfC0 Bw (lcg (Bw 14))))))] := hD
  refine lv_aload_n hx hb dX5_drifts_49 rfl (lv_at hl 2 rfl) ?_
  refine va_get (D := (dC, dI)) (ci := 5) (v := .ref mw) (C := RX5) (T := TX5) (N := 15) hx hb hts hiX5 hown hK hP 0 rfl rfl 0 (by decide) (hts (.fieldLink RX5 7 "RestRegistersModel" "w" "[I") (by decide +kernel)) (fun _ h9 => h9) rfl dX5_drifts_50 ?_
  refine lv_iconst (v := (nI 0)) hx hb dX5_drifts_53 (by decide) ?_
  refine rn_iald hx hb hK hP 1 0 rfl rfl (i := 0) (by omega) (by decide) (v := (nI (Bw 0))) (congrArg nI (dfC0_lo (by omega))) dX5_drifts_54 ?_
  refine rn_if_le (tgt := 121) hx hb dX5_drifts_55 (by decide) (by omega) (fun c55 => ?_) (fun c55 => ?_)
  · skip
    have ec : nA (dfC0 Bw (lcg (Bw 14))) = nA (dfB Bw) := by unfold dfB; first | (rw [if_pos ⟨c55, c65⟩]; done) | (rw [if_neg (by omega)])
    rw [ec] at hP hD
    have hP : va_P (dC, dI) vwCl [(m0, .inr (5, [.ref mw, .int (bi im), .ref mt, .int (nI tl), .ref ml, .ref mz, .ref mi, .ref mr, .int (nI at0), .int (nI st0), .int (nI nu), .int (nI rm), .int (nI rh), .ref md, .ref mh])), (mw, .inl (cI, 480, .inl (nA (dfB Bw))))] H := hP
    have hD : va_D A [(m0, .inr (5, [.ref mw, .int (bi im), .ref mt, .int (nI tl), .ref ml, .ref mz, .ref mi, .ref mr, .int (nI at0), .int (nI st0), .int (nI nu), .int (nI rm), .int (nI rh), .ref md, .ref mh])), (mw, .inl (cI, 480, .inl (nA (dfB Bw))))] := hD
    exact rr_vretW hx hb hr hlocks dX5_drifts_121 hP hD hS
  refine lv_iload_n hx hb dX5_drifts_58 rfl (lv_at hl 1 rfl) ?_
  refine lv_sipush (v := (nI 2048)) hx hb dX5_drifts_59 (by decide) ?_
  refine rn_idiv hx hb dX5_drifts_62 (by omega) (by omega) (by omega) ?_
  refine lv_iconst (v := (nI 5)) hx hb dX5_drifts_63 (by decide) ?_
  refine rn_irem hx hb dX5_drifts_64 (by omega) (by omega) (by omega) ?_
  refine rn_if_ne (tgt := 121) hx hb dX5_drifts_65 (by decide) (by omega) (fun c65 => ?_) (fun c65 => ?_)
  · skip
    have ec : nA (dfC0 Bw (lcg (Bw 14))) = nA (dfB Bw) := by unfold dfB; first | (rw [if_pos ⟨c55, c65⟩]; done) | (rw [if_neg (by omega)])
    rw [ec] at hP hD
    have hP : va_P (dC, dI) vwCl [(m0, .inr (5, [.ref mw, .int (bi im), .ref mt, .int (nI tl), .ref ml, .ref mz, .ref mi, .ref mr, .int (nI at0), .int (nI st0), .int (nI nu), .int (nI rm), .int (nI rh), .ref md, .ref mh])), (mw, .inl (cI, 480, .inl (nA (dfB Bw))))] H := hP
    have hD : va_D A [(m0, .inr (5, [.ref mw, .int (bi im), .ref mt, .int (nI tl), .ref ml, .ref mz, .ref mi, .ref mr, .int (nI at0), .int (nI st0), .int (nI nu), .int (nI rm), .int (nI rh), .ref md, .ref mh])), (mw, .inl (cI, 480, .inl (nA (dfB Bw))))] := hD
    exact rr_vretW hx hb hr hlocks dX5_drifts_121 hP hD hS
  refine lv_iload_n hx hb dX5_drifts_68 rfl (lv_at hl 1 rfl) ?_
  refine lv_sipush (v := (nI 256)) hx hb dX5_drifts_69 (by decide) ?_
  refine rn_idiv hx hb dX5_drifts_72 (by omega) (by omega) (by omega) ?_
  refine lv_aload_n hx hb dX5_drifts_73 rfl (lv_at hl 2 rfl) ?_
  refine va_get (D := (dC, dI)) (ci := 5) (v := .ref mw) (C := RX5) (T := TX5) (N := 15) hx hb hts hiX5 hown hK hP 0 rfl rfl 0 (by decide) (hts (.fieldLink RX5 7 "RestRegistersModel" "w" "[I") (by decide +kernel)) (fun _ h9 => h9) rfl dX5_drifts_74 ?_
  refine lv_iconst (v := (nI 0)) hx hb dX5_drifts_77 (by decide) ?_
  refine rn_iald hx hb hK hP 1 0 rfl rfl (i := 0) (by omega) (by decide) (v := (nI (Bw 0))) (congrArg nI (dfC0_lo (by omega))) dX5_drifts_78 ?_
  refine rn_irem hx hb dX5_drifts_79 (by omega) (by omega) (by omega) ?_
  refine lv_istore_n (lv' := [(3, .int (nI (((lcg (Bw 14)) / 256) % (Bw 0)))), (2, .int (nI (((lcg (Bw 14)) / 65536) % 4))), (1, .int (nI (lcg (Bw 14)))), (0, .ref m0)]) hx hb dX5_drifts_80 rfl hl (by decide) rfl (fun ls hl => ?_)
  have hmw := Nat.mod_lt ((lcg (Bw 14)) / 256) c55
  have h0 := mOk_df0 hm (lcg (Bw 14)) hd31
  have e0 : dfC0 Bw (lcg (Bw 14)) 0 = Bw 0 := dfC0_lo (by omega)
  have hrr := h0.row (r := (lcg (Bw 14)) / 65536 % 4) (by omega) ((lcg (Bw 14)) / 256 % Bw 0) (by rw [e0]; exact hmw)
  have ew : wdB (dfC0 Bw (lcg (Bw 14))) ((lcg (Bw 14)) / 256 % Bw 0) = wdB Bw ((lcg (Bw 14)) / 256 % Bw 0) := dfC0_lo (by omega)
  have hw9 := hm.wd ((lcg (Bw 14)) / 256 % Bw 0) hmw
  refine lv_aload_n hx hb dX5_drifts_81 rfl (lv_at hl 3 rfl) ?_
  refine va_get (D := (dC, dI)) (ci := 5) (v := .ref mw) (C := RX5) (T := TX5) (N := 15) hx hb hts hiX5 hown hK hP 0 rfl rfl 0 (by decide) (hts (.fieldLink RX5 7 "RestRegistersModel" "w" "[I") (by decide +kernel)) (fun _ h9 => h9) rfl dX5_drifts_82 ?_
  refine lv_bipush (v := (nI 15)) hx hb dX5_drifts_85 (by decide) ?_
  refine lv_bipush (v := (nI 6)) hx hb dX5_drifts_87 (by decide) ?_
  refine lv_iload_n hx hb dX5_drifts_89 rfl (lv_at hl 1 rfl) ?_
  refine rn_imul hx hb dX5_drifts_90 ?_
  refine rn_iadd hx hb dX5_drifts_91 ?_
  refine lv_iload_n hx hb dX5_drifts_92 rfl (lv_at hl 0 rfl) ?_
  refine rn_iadd hx hb dX5_drifts_93 ?_
  refine lv_aload_n hx hb dX5_drifts_94 rfl (lv_at hl 3 rfl) ?_
  refine va_get (D := (dC, dI)) (ci := 5) (v := .ref mw) (C := RX5) (T := TX5) (N := 15) hx hb hts hiX5 hown hK hP 0 rfl rfl 0 (by decide) (hts (.fieldLink RX5 7 "RestRegistersModel" "w" "[I") (by decide +kernel)) (fun _ h9 => h9) rfl dX5_drifts_95 ?_
  refine lv_bipush (v := (nI 15)) hx hb dX5_drifts_98 (by decide) ?_
  refine lv_bipush (v := (nI 6)) hx hb dX5_drifts_100 (by decide) ?_
  refine lv_iload_n hx hb dX5_drifts_102 rfl (lv_at hl 1 rfl) ?_
  refine rn_imul hx hb dX5_drifts_103 ?_
  refine rn_iadd hx hb dX5_drifts_104 ?_
  refine lv_iload_n hx hb dX5_drifts_105 rfl (lv_at hl 0 rfl) ?_
  refine rn_iadd hx hb dX5_drifts_106 ?_
  refine rn_iald hx hb hK hP 1 0 rfl rfl (i := 15 + (6 * (((lcg (Bw 14)) / 65536) % 4)) + (((lcg (Bw 14)) / 256) % (Bw 0))) (by omega) (by decide) (v := (nI (rsB (dfC0 Bw (lcg (Bw 14))) ((((lcg (Bw 14)) / 65536) % 4) * 6 + (((lcg (Bw 14)) / 256) % (Bw 0)))))) (rs_at _ _ _) dX5_drifts_107 ?_
  refine lv_iconst (v := (nI 1)) hx hb dX5_drifts_108 (by decide) ?_
  refine rn_iadd hx hb dX5_drifts_109 ?_
  refine lv_aload_n hx hb dX5_drifts_110 rfl (lv_at hl 3 rfl) ?_
  refine va_get (D := (dC, dI)) (ci := 5) (v := .ref mw) (C := RX5) (T := TX5) (N := 15) hx hb hts hiX5 hown hK hP 0 rfl rfl 0 (by decide) (hts (.fieldLink RX5 7 "RestRegistersModel" "w" "[I") (by decide +kernel)) (fun _ h9 => h9) rfl dX5_drifts_111 ?_
  refine lv_bipush (v := (nI 8)) hx hb dX5_drifts_114 (by decide) ?_
  refine lv_iload_n hx hb dX5_drifts_116 rfl (lv_at hl 0 rfl) ?_
  refine rn_iadd hx hb dX5_drifts_117 ?_
  refine rn_iald hx hb hK hP 1 0 rfl rfl (i := 8 + (((lcg (Bw 14)) / 256) % (Bw 0))) (by omega) (by decide) (v := (nI (wdB Bw ((lcg (Bw 14)) / 256 % Bw 0)))) (congrArg nI (dfC0_lo (by omega))) dX5_drifts_118 ?_
  refine rn_irem hx hb dX5_drifts_119 (by omega) (by omega) (by omega) ?_
  refine rn_iast hx hb hK hP hD hS 1 0 rfl rfl (i := 15 + (6 * (((lcg (Bw 14)) / 65536) % 4)) + (((lcg (Bw 14)) / 256) % (Bw 0))) (by omega) (by decide) (g := nA (uN (dfC0 Bw (lcg (Bw 14))) (15 + (6 * (((lcg (Bw 14)) / 65536) % 4)) + (((lcg (Bw 14)) / 256) % (Bw 0))) ((rsB (dfC0 Bw (lcg (Bw 14))) ((((lcg (Bw 14)) / 65536) % 4) * 6 + (((lcg (Bw 14)) / 256) % (Bw 0))) + 1) % (wdB Bw ((lcg (Bw 14)) / 256 % Bw 0))))) (nA_upd _ _ _) dX5_drifts_120 (fun H locs hP hD hS => ?_)
  have hP : va_P (dC, dI) vwCl [(m0, .inr (5, [.ref mw, .int (bi im), .ref mt, .int (nI tl), .ref ml, .ref mz, .ref mi, .ref mr, .int (nI at0), .int (nI st0), .int (nI nu), .int (nI rm), .int (nI rh), .ref md, .ref mh])), (mw, .inl (cI, 480, .inl (nA (uN (dfC0 Bw (lcg (Bw 14))) (15 + (6 * (((lcg (Bw 14)) / 65536) % 4)) + (((lcg (Bw 14)) / 256) % (Bw 0))) ((rsB (dfC0 Bw (lcg (Bw 14))) ((((lcg (Bw 14)) / 65536) % 4) * 6 + (((lcg (Bw 14)) / 256) % (Bw 0))) + 1) % (wdB Bw ((lcg (Bw 14)) / 256 % Bw 0)))))))] H := hP
  have hD : va_D A [(m0, .inr (5, [.ref mw, .int (bi im), .ref mt, .int (nI tl), .ref ml, .ref mz, .ref mi, .ref mr, .int (nI at0), .int (nI st0), .int (nI nu), .int (nI rm), .int (nI rh), .ref md, .ref mh])), (mw, .inl (cI, 480, .inl (nA (uN (dfC0 Bw (lcg (Bw 14))) (15 + (6 * (((lcg (Bw 14)) / 65536) % 4)) + (((lcg (Bw 14)) / 256) % (Bw 0))) ((rsB (dfC0 Bw (lcg (Bw 14))) ((((lcg (Bw 14)) / 65536) % 4) * 6 + (((lcg (Bw 14)) / 256) % (Bw 0))) + 1) % (wdB Bw ((lcg (Bw 14)) / 256 % Bw 0)))))))] := hD
  have ec : nA (uN (dfC0 Bw (lcg (Bw 14))) (15 + (6 * (((lcg (Bw 14)) / 65536) % 4)) + (((lcg (Bw 14)) / 256) % (Bw 0))) ((rsB (dfC0 Bw (lcg (Bw 14))) ((((lcg (Bw 14)) / 65536) % 4) * 6 + (((lcg (Bw 14)) / 256) % (Bw 0))) + 1) % (wdB Bw ((lcg (Bw 14)) / 256 % Bw 0)))) = nA (dfB Bw) := by unfold dfB; first | (rw [if_pos ⟨c55, c65⟩]; done) | (rw [if_neg (by omega)])
  rw [ec] at hP hD
  have hP : va_P (dC, dI) vwCl [(m0, .inr (5, [.ref mw, .int (bi im), .ref mt, .int (nI tl), .ref ml, .ref mz, .ref mi, .ref mr, .int (nI at0), .int (nI st0), .int (nI nu), .int (nI rm), .int (nI rh), .ref md, .ref mh])), (mw, .inl (cI, 480, .inl (nA (dfB Bw))))] H := hP
  have hD : va_D A [(m0, .inr (5, [.ref mw, .int (bi im), .ref mt, .int (nI tl), .ref ml, .ref mz, .ref mi, .ref mr, .int (nI at0), .int (nI st0), .int (nI nu), .int (nI rm), .int (nI rh), .ref md, .ref mh])), (mw, .inl (cI, 480, .inl (nA (dfB Bw))))] := hD
  exact rr_vretW hx hb hr hlocks dX5_drifts_121 hP hD hS
set_option maxHeartbeats 4000000 in
set_option maxRecDepth 100000 in
theorem c_X5_drift_g (l : Launch) (dC : Nat → ClassId) (dI : Nat → Nat → Nat) (cI cJ cS : ClassId) (sz : Nat) (m0 mw mt ml mz mi mr md mh : Nat) (im : Bool) (tl at0 st0 nu rm rh : Nat) (Bw Rs : Nat → Nat) (t : Nat) (hm : mOk Bw) (ht1 : 1 ≤ t) (ht2 : t ≤ 40) : Met l yX5_drift wsX5_drift ({ frames := 6, cells := 0, slots := 0, locals := 137 }) (va_Pc [.ref m0, .int (nI t)] (rW (dC, dI) vwCl [(m0, .inr (5, [.ref mw, .int (bi im), .ref mt, .int (nI tl), .ref ml, .ref mz, .ref mi, .ref mr, .int (nI at0), .int (nI st0), .int (nI nu), .int (nI rm), .int (nI rh), .ref md, .ref mh])), (mw, .inl (cI, 480, .inl (nA Bw))), (mr, .inl (cI, 6, .inl (nA Rs)))] (tyz cI cJ cS) sz)) (qIs (nI (orS (fun r => decide (VB (dfI Bw t) r < rgB (dfI Bw t))) 4)) (dC, dI) vwCl (fun Rq => [(m0, .inr (5, [.ref mw, .int (bi im), .ref mt, .int (nI tl), .ref ml, .ref mz, .ref mi, .ref mr, .int (nI at0), .int (nI st0), .int (nI nu), .int (nI rm), .int (nI rh), .ref md, .ref mh])), (mw, .inl (cI, 480, .inl (nA (dfI Bw t)))), (mr, .inl (cI, 6, .inl (nA Rq)))]) (va_A [(m0, .inr (5, [.ref mw, .int (bi im), .ref mt, .int (nI tl), .ref ml, .ref mz, .ref mi, .ref mr, .int (nI at0), .int (nI st0), .int (nI nu), .int (nI rm), .int (nI rh), .ref md, .ref mh])), (mw, .inl (cI, 480, .inl (nA Bw))), (mr, .inl (cI, 6, .inl (nA Rs)))] sz)) 0 0 (va_A [(m0, .inr (5, [.ref mw, .int (bi im), .ref mt, .int (nI tl), .ref ml, .ref mz, .ref mi, .ref mr, .int (nI at0), .int (nI st0), .int (nI nu), .int (nI rm), .int (nI rh), .ref md, .ref mh])), (mw, .inl (cI, 480, .inl (nA Bw))), (mr, .inl (cI, 6, .inl (nA Rs)))] sz) := by
  refine Met.ofW (cc := cX5_drift) (maxL := 3) (ret := (some .int)) (by decide) rfl ?_
  intro p e s m args below meth c s₁ B hml hv
  obtain ⟨rfl, hsz, hP, hKK, hD0⟩ := hv
  have hK := hKK.1
  have hx := B.exec
  have hb := B.bytes
  have hr := B.returns
  have hts := atoms_spec (ws := wsX5_drift) B.pre
  have hown : s.vm.findClass RX5 = some m.cls := findClass_of_methodNamed B.named
  have hlocks := B.notSynchronized
  subst hsz
  have hD := hD0.self (sz := s.heap.size)
  generalize hAe : va_A [(m0, .inr (5, [.ref mw, .int (bi im), .ref mt, .int (nI tl), .ref ml, .ref mz, .ref mi, .ref mr, .int (nI at0), .int (nI st0), .int (nI nu), .int (nI rm), .int (nI rh), .ref md, .ref mh])), (mw, .inl (cI, 480, .inl (nA Bw))), (mr, .inl (cI, 6, .inl (nA Rs)))] s.heap.size = A at hD ⊢
  have hA : ∀ q : Nat, s.heap.size ≤ q → A q := fun q h => by rw [← hAe]; exact Or.inr h
  have hS : va_S A s.heap s.heap [] := va_S.rf
  have hP : va_P (dC, dI) vwCl [(m0, .inr (5, [.ref mw, .int (bi im), .ref mt, .int (nI tl), .ref ml, .ref mz, .ref mi, .ref mr, .int (nI at0), .int (nI st0), .int (nI nu), .int (nI rm), .int (nI rh), .ref md, .ref mh])), (mw, .inl (cI, 480, .inl (nA Bw))), (mr, .inl (cI, 6, .inl (nA Rs)))] s.heap := hP
  have hl := lv_entry ([.ref m0, .int (nI t)]) (n := 3) (Nat.le_of_ble_eq_true rfl)
  rw [lg_entry_eq]
  generalize (lg_sl ([.ref m0, .int (nI t)]) ++ List.replicate (3 - (lg_sl ([.ref m0, .int (nI t)])).length) Slot.unset).toArray = ls at hl ⊢
  have hl : lv_has ls 3 [(0, .ref m0), (1, .int (nI t))] := hl
  have hn6 := hm.n
  refine lv_iload_n hx hb dX5_drift_0 rfl (lv_at hl 1 rfl) ?_
  refine lv_i2l hx hb dX5_drift_1 rfl ?_
  refine lv_lconst (v := 1) hx hb dX5_drift_2 (by decide) ?_
  refine lv_ldc2 (v := 40) hx hb hown (hts (.constantLong RX5 165 (40)) (by decide +kernel)) dX5_drift_3 ?_
  refine rr_callR (va_runS (As := [.long ((nI t).toInt64), .long 1, .long 40]) (rest := []) ⟨hx, hb, hml, hown, hts⟩ (c_X5_in l ((nI t).toInt64) 1 40 ) (va_cwS 3 hts gX5_drift_X5_in rfl rfl rfl (by decide +kernel) ⟨Nat.le_of_ble_eq_true rfl, Nat.le_of_ble_eq_true rfl⟩) rr_preT rfl rfl hl.1 rfl (lv_room (Nat.le_of_ble_eq_true rfl)) dX5_drift_6 ⟨Nat.zero_le _, Nat.zero_le _⟩) ?_
  refine rr_top (y := (bi true)) (congrArg bi (inL_nI (by omega) (by have z1 : (1 : Int64).toInt = 1 := rfl; have z2 : (40 : Int64).toInt = 40 := rfl; omega))) ?_
  refine rb_if_ne (tgt := 14) hx hb dX5_drift_9 (by decide) (fun c9 => ?_) (fun c9 => ?_)
  rotate_left
  · exact absurd c9 (by decide)
  refine lv_iconst (v := (nI 0)) hx hb dX5_drift_14 (by decide) ?_
  refine lv_istore_n (lv' := [(2, .int (nI 0)), (0, .ref m0), (1, .int (nI t))]) hx hb dX5_drift_15 rfl hl (by decide) rfl (fun ls hl => ?_)
  refine rlW1 (A1 := Nat) (fun H locs ls => W p l e _ s m _ below meth c H locs 0 0 _ (F0 m 16 ls [])) (fun i H locs ls => i ≤ t ∧ va_P (dC, dI) vwCl [(m0, .inr (5, [.ref mw, .int (bi im), .ref mt, .int (nI tl), .ref ml, .ref mz, .ref mi, .ref mr, .int (nI at0), .int (nI st0), .int (nI nu), .int (nI rm), .int (nI rh), .ref md, .ref mh])), (mw, .inl (cI, 480, .inl (nA (dfI Bw i)))), (mr, .inl (cI, 6, .inl (nA Rs)))] H ∧ va_D A [(m0, .inr (5, [.ref mw, .int (bi im), .ref mt, .int (nI tl), .ref ml, .ref mz, .ref mi, .ref mr, .int (nI at0), .int (nI st0), .int (nI nu), .int (nI rm), .int (nI rh), .ref md, .ref mh])), (mw, .inl (cI, 480, .inl (nA (dfI Bw i)))), (mr, .inl (cI, 6, .inl (nA Rs)))] ∧ va_S A s.heap H locs ∧ lv_has ls 3 [(2, .int (nI i)), (0, .ref m0), (1, .int (nI t))]) (fun i => t - i) ?_ 0 _ _ ls ⟨by omega, hP, hD, hS, lv_sub hl [0, 1, 2] rfl⟩
  rintro i H locs ls ⟨hi, hP, hD, hS, hl⟩ ih16
  refine lv_iload_n hx hb dX5_drift_16 rfl (lv_at hl 0 rfl) ?_
  refine lv_iload_n hx hb dX5_drift_17 rfl (lv_at hl 2 rfl) ?_
  refine rn_icmp_ge (tgt := 31) hx hb dX5_drift_18 (by decide) (by omega) (by omega) (fun c18 => ?_) (fun c18 => ?_)
  · skip
    have ei : i = t := Nat.le_antisymm hi c18
    subst ei
    have hP : va_P (dC, dI) vwCl [(m0, .inr (5, [.ref mw, .int (bi im), .ref mt, .int (nI tl), .ref ml, .ref mz, .ref mi, .ref mr, .int (nI at0), .int (nI st0), .int (nI nu), .int (nI rm), .int (nI rh), .ref md, .ref mh])), (mw, .inl (cI, 480, .inl (nA (dfI Bw i)))), (mr, .inl (cI, 6, .inl (nA Rs)))] H := hP
    have hD : va_D A [(m0, .inr (5, [.ref mw, .int (bi im), .ref mt, .int (nI tl), .ref ml, .ref mz, .ref mi, .ref mr, .int (nI at0), .int (nI st0), .int (nI nu), .int (nI rm), .int (nI rh), .ref md, .ref mh])), (mw, .inl (cI, 480, .inl (nA (dfI Bw i)))), (mr, .inl (cI, 6, .inl (nA Rs)))] := hD
    refine lv_aload_n hx hb dX5_drift_31 rfl (lv_at hl 1 rfl) ?_
    refine rw_calli (va_runV (As := []) (rest := []) ⟨hx, hb, hml, hown, hts⟩ (c_X5_legals l dC dI cI cJ cS _ m0 mw mt ml mz mi mr md mh im tl at0 st0 nu rm rh (dfI Bw i) Rs (mOk_dfI hm i)) (cwV 0 hts gX5_drift_X5_legals rfl rfl rfl (by decide +kernel) ⟨Nat.le_of_ble_eq_true rfl, Nat.le_of_ble_eq_true rfl⟩) (rw_preV hKK hP hD rfl rfl) rfl rfl hl.1 rfl (lv_room (Nat.le_of_ble_eq_true rfl)) dX5_drift_32 ⟨Nat.zero_le _, Nat.zero_le _⟩) (wr := []) hP hD hS hA [0, 1, 2] [] rfl rfl (by decide) (by decide) (fun H locs hP hD hS => ?_)
    have hP : va_P (dC, dI) vwCl [(m0, .inr (5, [.ref mw, .int (bi im), .ref mt, .int (nI tl), .ref ml, .ref mz, .ref mi, .ref mr, .int (nI at0), .int (nI st0), .int (nI nu), .int (nI rm), .int (nI rh), .ref md, .ref mh])), (mw, .inl (cI, 480, .inl (nA (dfI Bw i)))), (mr, .inl (cI, 6, .inl (nA (lkN (dfI Bw i) 3 6 (lkN (dfI Bw i) 2 6 (lkN (dfI Bw i) 1 6 (lkN (dfI Bw i) 0 6 Rs)))))))] H := hP.sub [0, 1, 2] rfl
    have hD : va_D A [(m0, .inr (5, [.ref mw, .int (bi im), .ref mt, .int (nI tl), .ref ml, .ref mz, .ref mi, .ref mr, .int (nI at0), .int (nI st0), .int (nI nu), .int (nI rm), .int (nI rh), .ref md, .ref mh])), (mw, .inl (cI, 480, .inl (nA (dfI Bw i)))), (mr, .inl (cI, 6, .inl (nA (lkN (dfI Bw i) 3 6 (lkN (dfI Bw i) 2 6 (lkN (dfI Bw i) 1 6 (lkN (dfI Bw i) 0 6 Rs)))))))] := hD.sub [0, 1, 2] (by decide) rfl
    exact rr_iretWs (u := (lkN (dfI Bw i) 3 6 (lkN (dfI Bw i) 2 6 (lkN (dfI Bw i) 1 6 (lkN (dfI Bw i) 0 6 Rs))))) hx hb hr hlocks dX5_drift_35 hP hD hS (rfl)
  refine lv_aload_n hx hb dX5_drift_21 rfl (lv_at hl 1 rfl) ?_
  refine rw_callv (va_runV (As := []) (rest := []) ⟨hx, hb, hml, hown, hts⟩ (c_X5_drifts l dC dI cI cJ cS _ m0 mw mt ml mz mi mr md mh im tl at0 st0 nu rm rh (dfI Bw i) (mOk_dfI hm i)) (cwV 0 hts gX5_drift_X5_drifts rfl rfl rfl (by decide +kernel) ⟨Nat.le_of_ble_eq_true rfl, Nat.le_of_ble_eq_true rfl⟩) (rw_preV hKK (hP.sub [0, 1] rfl) (hD.sub [0, 1] (by decide) rfl) rfl rfl) rfl rfl hl.1 rfl (lv_room (Nat.le_of_ble_eq_true rfl)) dX5_drift_22 ⟨Nat.zero_le _, Nat.zero_le _⟩) (wr := [(mr, .inl (cI, 6, .inl (nA Rs)))]) hP hD hS hA [0, 1] [2] rfl rfl (by decide) (by decide) (fun H locs hP hD hS => ?_)
  have hP : va_P (dC, dI) vwCl [(m0, .inr (5, [.ref mw, .int (bi im), .ref mt, .int (nI tl), .ref ml, .ref mz, .ref mi, .ref mr, .int (nI at0), .int (nI st0), .int (nI nu), .int (nI rm), .int (nI rh), .ref md, .ref mh])), (mw, .inl (cI, 480, .inl (nA (dfB (dfI Bw i))))), (mr, .inl (cI, 6, .inl (nA Rs)))] H := hP.sub [1, 2, 0] rfl
  have hD : va_D A [(m0, .inr (5, [.ref mw, .int (bi im), .ref mt, .int (nI tl), .ref ml, .ref mz, .ref mi, .ref mr, .int (nI at0), .int (nI st0), .int (nI nu), .int (nI rm), .int (nI rh), .ref md, .ref mh])), (mw, .inl (cI, 480, .inl (nA (dfB (dfI Bw i))))), (mr, .inl (cI, 6, .inl (nA Rs)))] := hD.sub [1, 2, 0] (by decide) rfl
  have ec : nA (dfB (dfI Bw i)) = nA (dfI Bw (i + 1)) := rfl
  rw [ec] at hP hD
  have hP : va_P (dC, dI) vwCl [(m0, .inr (5, [.ref mw, .int (bi im), .ref mt, .int (nI tl), .ref ml, .ref mz, .ref mi, .ref mr, .int (nI at0), .int (nI st0), .int (nI nu), .int (nI rm), .int (nI rh), .ref md, .ref mh])), (mw, .inl (cI, 480, .inl (nA (dfI Bw (i + 1))))), (mr, .inl (cI, 6, .inl (nA Rs)))] H := hP
  have hD : va_D A [(m0, .inr (5, [.ref mw, .int (bi im), .ref mt, .int (nI tl), .ref ml, .ref mz, .ref mi, .ref mr, .int (nI at0), .int (nI st0), .int (nI nu), .int (nI rm), .int (nI rh), .ref md, .ref mh])), (mw, .inl (cI, 480, .inl (nA (dfI Bw (i + 1))))), (mr, .inl (cI, 6, .inl (nA Rs)))] := hD
  refine lv_iinc (v := (nI (i + 1))) (lv' := [(2, .int (nI (i + 1))), (0, .ref m0), (1, .int (nI t))]) hx hb dX5_drift_25 hl (k := 0) rfl (rn_inc i 1) (by decide) rfl (fun ls hl => ?_)
  refine lv_goto (tgt := 16) hx hb dX5_drift_28 (by decide) ?_
  exact ih16 (i + 1) _ _ ls ⟨by omega, hP, hD, hS, lv_sub hl [0, 1, 2] rfl⟩ (by omega)
set_option maxHeartbeats 4000000 in
set_option maxRecDepth 100000 in
theorem c_X5_drift_b (l : Launch) (dC : Nat → ClassId) (dI : Nat → Nat → Nat) (cI cJ cS : ClassId) (m0 mw mt ml mz mi mr md mh : Nat) (im : Bool) (tl at0 st0 nu rm rh : Nat) (Bw : Nat → Nat) (x : Int32) (hbad : inL x.toInt64 1 40 = false) : Met l yX5_drift wsX5_drift ({ frames := 6, cells := 0, slots := 0, locals := 137 }) (va_Pc [.ref m0, .int x] (rB (dC, dI) vwCl [(m0, .inr (5, [.ref mw, .int (bi im), .ref mt, .int (nI tl), .ref ml, .ref mz, .ref mi, .ref mr, .int (nI at0), .int (nI st0), .int (nI nu), .int (nI rm), .int (nI rh), .ref md, .ref mh])), (mw, .inl (cI, 480, .inl (nA Bw)))] (tyz cI cJ cS))) (QcRead (-1)) 0 0 (fun _ => False) := by
  refine Met.ofW (cc := cX5_drift) (maxL := 3) (ret := (some .int)) (by decide) rfl ?_
  intro p e s m args below meth c s₁ B hml hv
  obtain ⟨rfl, hP, hKK⟩ := hv
  have hK := hKK.1
  have hx := B.exec
  have hb := B.bytes
  have hr := B.returns
  have hts := atoms_spec (ws := wsX5_drift) B.pre
  have hown : s.vm.findClass RX5 = some m.cls := findClass_of_methodNamed B.named
  have hlocks := B.notSynchronized
  have hl := lv_entry ([.ref m0, .int x]) (n := 3) (Nat.le_of_ble_eq_true rfl)
  rw [lg_entry_eq]
  generalize (lg_sl ([.ref m0, .int x]) ++ List.replicate (3 - (lg_sl ([.ref m0, .int x])).length) Slot.unset).toArray = ls at hl ⊢
  have hl : lv_has ls 3 [(0, .ref m0), (1, .int x)] := hl
  refine lv_iload_n hx hb dX5_drift_0 rfl (lv_at hl 1 rfl) ?_
  refine lv_i2l hx hb dX5_drift_1 rfl ?_
  refine lv_lconst (v := 1) hx hb dX5_drift_2 (by decide) ?_
  refine lv_ldc2 (v := 40) hx hb hown (hts (.constantLong RX5 165 (40)) (by decide +kernel)) dX5_drift_3 ?_
  refine rr_callR (va_runS (As := [.long x.toInt64, .long 1, .long 40]) (rest := []) ⟨hx, hb, hml, hown, hts⟩ (c_X5_in l x.toInt64 1 40 ) (va_cwS 3 hts gX5_drift_X5_in rfl rfl rfl (by decide +kernel) ⟨Nat.le_of_ble_eq_true rfl, Nat.le_of_ble_eq_true rfl⟩) rr_preT rfl rfl hl.1 rfl (lv_room (Nat.le_of_ble_eq_true rfl)) dX5_drift_6 ⟨Nat.zero_le _, Nat.zero_le _⟩) ?_
  refine rb_if_ne (tgt := 14) hx hb dX5_drift_9 (by decide) (fun c9 => ?_) (fun c9 => ?_)
  · skip
    exact absurd hbad (by rw [c9]; decide)
  refine lv_iconst (v := (-1)) hx hb dX5_drift_12 (by decide) ?_
  exact rr_iret hx hb hr hlocks dX5_drift_13 (rfl)
set_option maxHeartbeats 4000000 in
set_option maxRecDepth 100000 in
theorem c_X5_undo_0 (l : Launch) (dC : Nat → ClassId) (dI : Nat → Nat → Nat) (cI cJ cS : ClassId) (m0 mw mt ml mz mi mr md mh : Nat) (im : Bool) (tl at0 st0 nu rm rh : Nat) (Bw : Nat → Nat) (h0 : Bw 39 = 0) : Met l yX5_undo wsX5_undo ({ frames := 0, cells := 0, slots := 0, locals := 0 }) (va_Pc [.ref m0] (rB (dC, dI) vwCl [(m0, .inr (5, [.ref mw, .int (bi im), .ref mt, .int (nI tl), .ref ml, .ref mz, .ref mi, .ref mr, .int (nI at0), .int (nI st0), .int (nI nu), .int (nI rm), .int (nI rh), .ref md, .ref mh])), (mw, .inl (cI, 480, .inl (nA Bw)))] (tyz cI cJ cS))) (QcRead (-4)) 0 0 (fun _ => False) := by
  refine Met.ofW (cc := cX5_undo) (maxL := 2) (ret := (some .int)) (by decide) rfl ?_
  intro p e s m args below meth c s₁ B hml hv
  obtain ⟨rfl, hP, hKK⟩ := hv
  have hK := hKK.1
  have hx := B.exec
  have hb := B.bytes
  have hr := B.returns
  have hts := atoms_spec (ws := wsX5_undo) B.pre
  have hown : s.vm.findClass RX5 = some m.cls := findClass_of_methodNamed B.named
  have hlocks := B.notSynchronized
  have hiX5 : ∀ w ∈ wsX50, w ∈ wsX5_undo := by decide +kernel
  have hl := lv_entry ([.ref m0]) (n := 2) (Nat.le_of_ble_eq_true rfl)
  rw [lg_entry_eq]
  generalize (lg_sl ([.ref m0]) ++ List.replicate (2 - (lg_sl ([.ref m0])).length) Slot.unset).toArray = ls at hl ⊢
  have hl : lv_has ls 2 [(0, .ref m0)] := hl
  refine lv_aload_n hx hb dX5_undo_0 rfl (lv_at hl 0 rfl) ?_
  refine va_get (D := (dC, dI)) (ci := 5) (v := .ref mw) (C := RX5) (T := TX5) (N := 15) hx hb hts hiX5 hown hK hP 0 rfl rfl 0 (by decide) (hts (.fieldLink RX5 7 "RestRegistersModel" "w" "[I") (by decide +kernel)) (fun _ h9 => h9) rfl dX5_undo_1 ?_
  refine lv_bipush (v := (nI 39)) hx hb dX5_undo_4 (by decide) ?_
  refine rn_iald hx hb hK hP 1 0 rfl rfl (i := 39) (by omega) (by decide) (v := (nI (Bw 39))) rfl dX5_undo_6 ?_
  refine rn_if_ne (tgt := 13) hx hb dX5_undo_7 (by decide) (by omega) (fun c7 => ?_) (fun c7 => ?_)
  · skip
    exact absurd h0 c7
  refine lv_bipush (v := (-4)) hx hb dX5_undo_10 (by decide) ?_
  exact rr_iret hx hb hr hlocks dX5_undo_12 (rfl)
set_option maxHeartbeats 4000000 in
set_option maxRecDepth 100000 in
theorem c_X5_undo_1 (l : Launch) (dC : Nat → ClassId) (dI : Nat → Nat → Nat) (cI cJ cS : ClassId) (sz : Nat) (m0 mw mt ml mz mi mr md mh : Nat) (im : Bool) (tl at0 st0 nu rm rh : Nat) (Bw : Nat → Nat) (h0 : 0 < Bw 39) (h8 : Bw 39 ≤ 8) : Met l yX5_undo wsX5_undo ({ frames := 0, cells := 0, slots := 0, locals := 0 }) (va_Pc [.ref m0] (rW (dC, dI) vwCl [(m0, .inr (5, [.ref mw, .int (bi im), .ref mt, .int (nI tl), .ref ml, .ref mz, .ref mi, .ref mr, .int (nI at0), .int (nI st0), .int (nI nu), .int (nI rm), .int (nI rh), .ref md, .ref mh])), (mw, .inl (cI, 480, .inl (nA Bw)))] (tyz cI cJ cS) sz)) (qI (nI (Bw 39 - 1)) (dC, dI) vwCl [(m0, .inr (5, [.ref mw, .int (bi im), .ref mt, .int (nI tl), .ref ml, .ref mz, .ref mi, .ref mr, .int (nI at0), .int (nI st0), .int (nI nu), .int (nI rm), .int (nI rh), .ref md, .ref mh])), (mw, .inl (cI, 480, .inl (nA (udB Bw))))] (va_A [(m0, .inr (5, [.ref mw, .int (bi im), .ref mt, .int (nI tl), .ref ml, .ref mz, .ref mi, .ref mr, .int (nI at0), .int (nI st0), .int (nI nu), .int (nI rm), .int (nI rh), .ref md, .ref mh])), (mw, .inl (cI, 480, .inl (nA Bw)))] sz)) 0 0 (va_A [(m0, .inr (5, [.ref mw, .int (bi im), .ref mt, .int (nI tl), .ref ml, .ref mz, .ref mi, .ref mr, .int (nI at0), .int (nI st0), .int (nI nu), .int (nI rm), .int (nI rh), .ref md, .ref mh])), (mw, .inl (cI, 480, .inl (nA Bw)))] sz) := by
  refine Met.ofW (cc := cX5_undo) (maxL := 2) (ret := (some .int)) (by decide) rfl ?_
  intro p e s m args below meth c s₁ B hml hv
  obtain ⟨rfl, hsz, hP, hKK, hD0⟩ := hv
  have hK := hKK.1
  have hx := B.exec
  have hb := B.bytes
  have hr := B.returns
  have hts := atoms_spec (ws := wsX5_undo) B.pre
  have hown : s.vm.findClass RX5 = some m.cls := findClass_of_methodNamed B.named
  have hlocks := B.notSynchronized
  subst hsz
  have hD := hD0.self (sz := s.heap.size)
  generalize hAe : va_A [(m0, .inr (5, [.ref mw, .int (bi im), .ref mt, .int (nI tl), .ref ml, .ref mz, .ref mi, .ref mr, .int (nI at0), .int (nI st0), .int (nI nu), .int (nI rm), .int (nI rh), .ref md, .ref mh])), (mw, .inl (cI, 480, .inl (nA Bw)))] s.heap.size = A at hD ⊢
  have hA : ∀ q : Nat, s.heap.size ≤ q → A q := fun q h => by rw [← hAe]; exact Or.inr h
  have hS : va_S A s.heap s.heap [] := va_S.rf
  have hP : va_P (dC, dI) vwCl [(m0, .inr (5, [.ref mw, .int (bi im), .ref mt, .int (nI tl), .ref ml, .ref mz, .ref mi, .ref mr, .int (nI at0), .int (nI st0), .int (nI nu), .int (nI rm), .int (nI rh), .ref md, .ref mh])), (mw, .inl (cI, 480, .inl (nA Bw)))] s.heap := hP
  have hiX5 : ∀ w ∈ wsX50, w ∈ wsX5_undo := by decide +kernel
  have hl := lv_entry ([.ref m0]) (n := 2) (Nat.le_of_ble_eq_true rfl)
  rw [lg_entry_eq]
  generalize (lg_sl ([.ref m0]) ++ List.replicate (2 - (lg_sl ([.ref m0])).length) Slot.unset).toArray = ls at hl ⊢
  have hl : lv_has ls 2 [(0, .ref m0)] := hl
  refine lv_aload_n hx hb dX5_undo_0 rfl (lv_at hl 0 rfl) ?_
  refine va_get (D := (dC, dI)) (ci := 5) (v := .ref mw) (C := RX5) (T := TX5) (N := 15) hx hb hts hiX5 hown hK hP 0 rfl rfl 0 (by decide) (hts (.fieldLink RX5 7 "RestRegistersModel" "w" "[I") (by decide +kernel)) (fun _ h9 => h9) rfl dX5_undo_1 ?_
  refine lv_bipush (v := (nI 39)) hx hb dX5_undo_4 (by decide) ?_
  refine rn_iald hx hb hK hP 1 0 rfl rfl (i := 39) (by omega) (by decide) (v := (nI (Bw 39))) rfl dX5_undo_6 ?_
  refine rn_if_ne (tgt := 13) hx hb dX5_undo_7 (by decide) (by omega) (fun c7 => ?_) (fun c7 => ?_)
  · skip
    refine lv_aload_n hx hb dX5_undo_13 rfl (lv_at hl 0 rfl) ?_
    refine va_get (D := (dC, dI)) (ci := 5) (v := .ref mw) (C := RX5) (T := TX5) (N := 15) hx hb hts hiX5 hown hK hP 0 rfl rfl 0 (by decide) (hts (.fieldLink RX5 7 "RestRegistersModel" "w" "[I") (by decide +kernel)) (fun _ h9 => h9) rfl dX5_undo_14 ?_
    refine lv_bipush (v := (nI 39)) hx hb dX5_undo_17 (by decide) ?_
    refine lv_dup2_11 hx hb dX5_undo_19 rfl rfl ?_
    refine rn_iald hx hb hK hP 1 0 rfl rfl (i := 39) (by omega) (by decide) (v := (nI (Bw 39))) rfl dX5_undo_20 ?_
    refine lv_iconst (v := (nI 1)) hx hb dX5_undo_21 (by decide) ?_
    refine rn_isub hx hb dX5_undo_22 (by omega) ?_
    refine rn_iast hx hb hK hP hD hS 1 0 rfl rfl (i := 39) (by omega) (by decide) (g := nA (uN Bw 39 (Bw 39 - 1))) (nA_upd _ _ _) dX5_undo_23 (fun H locs hP hD hS => ?_)
    have hP : va_P (dC, dI) vwCl [(m0, .inr (5, [.ref mw, .int (bi im), .ref mt, .int (nI tl), .ref ml, .ref mz, .ref mi, .ref mr, .int (nI at0), .int (nI st0), .int (nI nu), .int (nI rm), .int (nI rh), .ref md, .ref mh])), (mw, .inl (cI, 480, .inl (nA (uN Bw 39 (Bw 39 - 1)))))] H := hP
    have hD : va_D A [(m0, .inr (5, [.ref mw, .int (bi im), .ref mt, .int (nI tl), .ref ml, .ref mz, .ref mi, .ref mr, .int (nI at0), .int (nI st0), .int (nI nu), .int (nI rm), .int (nI rh), .ref md, .ref mh])), (mw, .inl (cI, 480, .inl (nA (uN Bw 39 (Bw 39 - 1)))))] := hD
    refine lv_iconst (v := (nI 0)) hx hb dX5_undo_24 (by decide) ?_
    refine lv_istore_n (lv' := [(1, .int (nI 0)), (0, .ref m0)]) hx hb dX5_undo_25 rfl hl (by decide) rfl (fun ls hl => ?_)
    have ec : nA (uN Bw 39 (Bw 39 - 1)) = nA (cpN (uN Bw 39 (Bw 39 - 1)) (uN Bw 39 (Bw 39 - 1)) (40 + 25 * (Bw 39 - 1)) 14 0) := cpN_0 _ _ _ _
    rw [ec] at hP hD
    have hP : va_P (dC, dI) vwCl [(m0, .inr (5, [.ref mw, .int (bi im), .ref mt, .int (nI tl), .ref ml, .ref mz, .ref mi, .ref mr, .int (nI at0), .int (nI st0), .int (nI nu), .int (nI rm), .int (nI rh), .ref md, .ref mh])), (mw, .inl (cI, 480, .inl (nA (cpN (uN Bw 39 (Bw 39 - 1)) (uN Bw 39 (Bw 39 - 1)) (40 + 25 * (Bw 39 - 1)) 14 0))))] H := hP
    have hD : va_D A [(m0, .inr (5, [.ref mw, .int (bi im), .ref mt, .int (nI tl), .ref ml, .ref mz, .ref mi, .ref mr, .int (nI at0), .int (nI st0), .int (nI nu), .int (nI rm), .int (nI rh), .ref md, .ref mh])), (mw, .inl (cI, 480, .inl (nA (cpN (uN Bw 39 (Bw 39 - 1)) (uN Bw 39 (Bw 39 - 1)) (40 + 25 * (Bw 39 - 1)) 14 0))))] := hD
    refine rlW1 (A1 := Nat) (fun H locs ls => W p l e _ s m _ below meth c H locs 0 0 _ (F0 m 26 ls [])) (fun k H locs ls => k ≤ 25 ∧ va_P (dC, dI) vwCl [(m0, .inr (5, [.ref mw, .int (bi im), .ref mt, .int (nI tl), .ref ml, .ref mz, .ref mi, .ref mr, .int (nI at0), .int (nI st0), .int (nI nu), .int (nI rm), .int (nI rh), .ref md, .ref mh])), (mw, .inl (cI, 480, .inl (nA (cpN (uN Bw 39 (Bw 39 - 1)) (uN Bw 39 (Bw 39 - 1)) (40 + 25 * (Bw 39 - 1)) 14 k))))] H ∧ va_D A [(m0, .inr (5, [.ref mw, .int (bi im), .ref mt, .int (nI tl), .ref ml, .ref mz, .ref mi, .ref mr, .int (nI at0), .int (nI st0), .int (nI nu), .int (nI rm), .int (nI rh), .ref md, .ref mh])), (mw, .inl (cI, 480, .inl (nA (cpN (uN Bw 39 (Bw 39 - 1)) (uN Bw 39 (Bw 39 - 1)) (40 + 25 * (Bw 39 - 1)) 14 k))))] ∧ va_S A s.heap H locs ∧ lv_has ls 2 [(1, .int (nI k)), (0, .ref m0)]) (fun k => 25 - k) ?_ 0 _ _ ls ⟨by omega, hP, hD, hS, lv_sub hl [0, 1] rfl⟩
    rintro k H locs ls ⟨hk2, hP, hD, hS, hl⟩ ih26
    refine lv_iload_n hx hb dX5_undo_26 rfl (lv_at hl 0 rfl) ?_
    refine lv_bipush (v := (nI 25)) hx hb dX5_undo_27 (by decide) ?_
    refine rn_icmp_ge (tgt := 67) hx hb dX5_undo_29 (by decide) (by omega) (by omega) (fun c29 => ?_) (fun c29 => ?_)
    · skip
      have ek : k = 25 := Nat.le_antisymm hk2 c29
      subst ek
      refine lv_aload_n hx hb dX5_undo_67 rfl (lv_at hl 1 rfl) ?_
      refine va_get (D := (dC, dI)) (ci := 5) (v := .ref mw) (C := RX5) (T := TX5) (N := 15) hx hb hts hiX5 hown hK hP 0 rfl rfl 0 (by decide) (hts (.fieldLink RX5 7 "RestRegistersModel" "w" "[I") (by decide +kernel)) (fun _ h9 => h9) rfl dX5_undo_68 ?_
      refine lv_bipush (v := (nI 39)) hx hb dX5_undo_71 (by decide) ?_
      refine rn_iald hx hb hK hP 1 0 rfl rfl (i := 39) (by omega) (by decide) (v := (nI (Bw 39 - 1))) (congrArg nI ((cpN_out (by omega)).trans uN_eq)) dX5_undo_73 ?_
      exact rr_iretW hx hb hr hlocks dX5_undo_74 hP hD hS (rfl)
    refine lv_aload_n hx hb dX5_undo_32 rfl (lv_at hl 1 rfl) ?_
    refine va_get (D := (dC, dI)) (ci := 5) (v := .ref mw) (C := RX5) (T := TX5) (N := 15) hx hb hts hiX5 hown hK hP 0 rfl rfl 0 (by decide) (hts (.fieldLink RX5 7 "RestRegistersModel" "w" "[I") (by decide +kernel)) (fun _ h9 => h9) rfl dX5_undo_33 ?_
    refine lv_bipush (v := (nI 14)) hx hb dX5_undo_36 (by decide) ?_
    refine lv_iload_n hx hb dX5_undo_38 rfl (lv_at hl 0 rfl) ?_
    refine rn_iadd hx hb dX5_undo_39 ?_
    refine lv_aload_n hx hb dX5_undo_40 rfl (lv_at hl 1 rfl) ?_
    refine va_get (D := (dC, dI)) (ci := 5) (v := .ref mw) (C := RX5) (T := TX5) (N := 15) hx hb hts hiX5 hown hK hP 0 rfl rfl 0 (by decide) (hts (.fieldLink RX5 7 "RestRegistersModel" "w" "[I") (by decide +kernel)) (fun _ h9 => h9) rfl dX5_undo_41 ?_
    refine lv_bipush (v := (nI 40)) hx hb dX5_undo_44 (by decide) ?_
    refine lv_bipush (v := (nI 25)) hx hb dX5_undo_46 (by decide) ?_
    refine lv_aload_n hx hb dX5_undo_48 rfl (lv_at hl 1 rfl) ?_
    refine va_get (D := (dC, dI)) (ci := 5) (v := .ref mw) (C := RX5) (T := TX5) (N := 15) hx hb hts hiX5 hown hK hP 0 rfl rfl 0 (by decide) (hts (.fieldLink RX5 7 "RestRegistersModel" "w" "[I") (by decide +kernel)) (fun _ h9 => h9) rfl dX5_undo_49 ?_
    refine lv_bipush (v := (nI 39)) hx hb dX5_undo_52 (by decide) ?_
    refine rn_iald hx hb hK hP 1 0 rfl rfl (i := 39) (by omega) (by decide) (v := (nI (Bw 39 - 1))) (congrArg nI ((cpN_out (by omega)).trans uN_eq)) dX5_undo_54 ?_
    refine rn_imul hx hb dX5_undo_55 ?_
    refine rn_iadd hx hb dX5_undo_56 ?_
    refine lv_iload_n hx hb dX5_undo_57 rfl (lv_at hl 0 rfl) ?_
    refine rn_iadd hx hb dX5_undo_58 ?_
    refine rn_iald hx hb hK hP 1 0 rfl rfl (i := 40 + (25 * (Bw 39 - 1)) + k) (by omega) (by decide) (v := (nI ((uN Bw 39 (Bw 39 - 1)) (40 + 25 * (Bw 39 - 1) + k)))) (congrArg nI (cpN_out (by omega))) dX5_undo_59 ?_
    refine rn_iast hx hb hK hP hD hS 1 0 rfl rfl (i := 14 + k) (by omega) (by decide) (g := nA (uN (cpN (uN Bw 39 (Bw 39 - 1)) (uN Bw 39 (Bw 39 - 1)) (40 + 25 * (Bw 39 - 1)) 14 k) (14 + k) ((uN Bw 39 (Bw 39 - 1)) (40 + 25 * (Bw 39 - 1) + k)))) (nA_upd _ _ _) dX5_undo_60 (fun H locs hP hD hS => ?_)
    have hP : va_P (dC, dI) vwCl [(m0, .inr (5, [.ref mw, .int (bi im), .ref mt, .int (nI tl), .ref ml, .ref mz, .ref mi, .ref mr, .int (nI at0), .int (nI st0), .int (nI nu), .int (nI rm), .int (nI rh), .ref md, .ref mh])), (mw, .inl (cI, 480, .inl (nA (uN (cpN (uN Bw 39 (Bw 39 - 1)) (uN Bw 39 (Bw 39 - 1)) (40 + 25 * (Bw 39 - 1)) 14 k) (14 + k) ((uN Bw 39 (Bw 39 - 1)) (40 + 25 * (Bw 39 - 1) + k))))))] H := hP
    have hD : va_D A [(m0, .inr (5, [.ref mw, .int (bi im), .ref mt, .int (nI tl), .ref ml, .ref mz, .ref mi, .ref mr, .int (nI at0), .int (nI st0), .int (nI nu), .int (nI rm), .int (nI rh), .ref md, .ref mh])), (mw, .inl (cI, 480, .inl (nA (uN (cpN (uN Bw 39 (Bw 39 - 1)) (uN Bw 39 (Bw 39 - 1)) (40 + 25 * (Bw 39 - 1)) 14 k) (14 + k) ((uN Bw 39 (Bw 39 - 1)) (40 + 25 * (Bw 39 - 1) + k))))))] := hD
    have ec : nA (uN (cpN (uN Bw 39 (Bw 39 - 1)) (uN Bw 39 (Bw 39 - 1)) (40 + 25 * (Bw 39 - 1)) 14 k) (14 + k) ((uN Bw 39 (Bw 39 - 1)) (40 + 25 * (Bw 39 - 1) + k))) = nA (cpN (uN Bw 39 (Bw 39 - 1)) (uN Bw 39 (Bw 39 - 1)) (40 + 25 * (Bw 39 - 1)) 14 (k + 1)) := cpN_s rfl rfl
    rw [ec] at hP hD
    have hP : va_P (dC, dI) vwCl [(m0, .inr (5, [.ref mw, .int (bi im), .ref mt, .int (nI tl), .ref ml, .ref mz, .ref mi, .ref mr, .int (nI at0), .int (nI st0), .int (nI nu), .int (nI rm), .int (nI rh), .ref md, .ref mh])), (mw, .inl (cI, 480, .inl (nA (cpN (uN Bw 39 (Bw 39 - 1)) (uN Bw 39 (Bw 39 - 1)) (40 + 25 * (Bw 39 - 1)) 14 (k + 1)))))] H := hP
    have hD : va_D A [(m0, .inr (5, [.ref mw, .int (bi im), .ref mt, .int (nI tl), .ref ml, .ref mz, .ref mi, .ref mr, .int (nI at0), .int (nI st0), .int (nI nu), .int (nI rm), .int (nI rh), .ref md, .ref mh])), (mw, .inl (cI, 480, .inl (nA (cpN (uN Bw 39 (Bw 39 - 1)) (uN Bw 39 (Bw 39 - 1)) (40 + 25 * (Bw 39 - 1)) 14 (k + 1)))))] := hD
    refine lv_iinc (v := (nI (k + 1))) (lv' := [(1, .int (nI (k + 1))), (0, .ref m0)]) hx hb dX5_undo_61 hl (k := 0) rfl (rn_inc k 1) (by decide) rfl (fun ls hl => ?_)
    refine lv_goto (tgt := 26) hx hb dX5_undo_64 (by decide) ?_
    exact ih26 (k + 1) _ _ ls ⟨by omega, hP, hD, hS, lv_sub hl [0, 1] rfl⟩ (by omega)
  exact absurd c7 (by omega)
set_option maxHeartbeats 4000000 in
set_option maxRecDepth 100000 in
theorem c_X5_seed_g (l : Launch) (dC : Nat → ClassId) (dI : Nat → Nat → Nat) (cI cJ cS : ClassId) (sz : Nat) (m0 mw mt ml mz mi mr md mh : Nat) (im : Bool) (tl at0 st0 nu rm rh : Nat) (Bw : Nat → Nat) (d : Nat) (hd2 : d < 2 ^ 31) : Met l yX5_seed wsX5_seed ({ frames := 0, cells := 0, slots := 0, locals := 0 }) (va_Pc [.ref m0, .int (nI d)] (rW (dC, dI) vwCl [(m0, .inr (5, [.ref mw, .int (bi im), .ref mt, .int (nI tl), .ref ml, .ref mz, .ref mi, .ref mr, .int (nI at0), .int (nI st0), .int (nI nu), .int (nI rm), .int (nI rh), .ref md, .ref mh])), (mw, .inl (cI, 480, .inl (nA Bw)))] (tyz cI cJ cS) sz)) (qI (nI (Bw 14)) (dC, dI) vwCl [(m0, .inr (5, [.ref mw, .int (bi im), .ref mt, .int (nI tl), .ref ml, .ref mz, .ref mi, .ref mr, .int (nI at0), .int (nI st0), .int (nI nu), .int (nI rm), .int (nI rh), .ref md, .ref mh])), (mw, .inl (cI, 480, .inl (nA (uN Bw 14 d))))] (va_A [(m0, .inr (5, [.ref mw, .int (bi im), .ref mt, .int (nI tl), .ref ml, .ref mz, .ref mi, .ref mr, .int (nI at0), .int (nI st0), .int (nI nu), .int (nI rm), .int (nI rh), .ref md, .ref mh])), (mw, .inl (cI, 480, .inl (nA Bw)))] sz)) 0 0 (va_A [(m0, .inr (5, [.ref mw, .int (bi im), .ref mt, .int (nI tl), .ref ml, .ref mz, .ref mi, .ref mr, .int (nI at0), .int (nI st0), .int (nI nu), .int (nI rm), .int (nI rh), .ref md, .ref mh])), (mw, .inl (cI, 480, .inl (nA Bw)))] sz) := by
  refine Met.ofW (cc := cX5_seed) (maxL := 3) (ret := (some .int)) (by decide) rfl ?_
  intro p e s m args below meth c s₁ B hml hv
  obtain ⟨rfl, hsz, hP, hKK, hD0⟩ := hv
  have hK := hKK.1
  have hx := B.exec
  have hb := B.bytes
  have hr := B.returns
  have hts := atoms_spec (ws := wsX5_seed) B.pre
  have hown : s.vm.findClass RX5 = some m.cls := findClass_of_methodNamed B.named
  have hlocks := B.notSynchronized
  subst hsz
  have hD := hD0.self (sz := s.heap.size)
  generalize hAe : va_A [(m0, .inr (5, [.ref mw, .int (bi im), .ref mt, .int (nI tl), .ref ml, .ref mz, .ref mi, .ref mr, .int (nI at0), .int (nI st0), .int (nI nu), .int (nI rm), .int (nI rh), .ref md, .ref mh])), (mw, .inl (cI, 480, .inl (nA Bw)))] s.heap.size = A at hD ⊢
  have hA : ∀ q : Nat, s.heap.size ≤ q → A q := fun q h => by rw [← hAe]; exact Or.inr h
  have hS : va_S A s.heap s.heap [] := va_S.rf
  have hP : va_P (dC, dI) vwCl [(m0, .inr (5, [.ref mw, .int (bi im), .ref mt, .int (nI tl), .ref ml, .ref mz, .ref mi, .ref mr, .int (nI at0), .int (nI st0), .int (nI nu), .int (nI rm), .int (nI rh), .ref md, .ref mh])), (mw, .inl (cI, 480, .inl (nA Bw)))] s.heap := hP
  have hiX5 : ∀ w ∈ wsX50, w ∈ wsX5_seed := by decide +kernel
  have hl := lv_entry ([.ref m0, .int (nI d)]) (n := 3) (Nat.le_of_ble_eq_true rfl)
  rw [lg_entry_eq]
  generalize (lg_sl ([.ref m0, .int (nI d)]) ++ List.replicate (3 - (lg_sl ([.ref m0, .int (nI d)])).length) Slot.unset).toArray = ls at hl ⊢
  have hl : lv_has ls 3 [(0, .ref m0), (1, .int (nI d))] := hl
  refine lv_iload_n hx hb dX5_seed_0 rfl (lv_at hl 1 rfl) ?_
  refine rn_if_ge (tgt := 6) hx hb dX5_seed_1 (by decide) (by omega) ?_
  refine lv_aload_n hx hb dX5_seed_6 rfl (lv_at hl 0 rfl) ?_
  refine va_get (D := (dC, dI)) (ci := 5) (v := .ref mw) (C := RX5) (T := TX5) (N := 15) hx hb hts hiX5 hown hK hP 0 rfl rfl 0 (by decide) (hts (.fieldLink RX5 7 "RestRegistersModel" "w" "[I") (by decide +kernel)) (fun _ h9 => h9) rfl dX5_seed_7 ?_
  refine lv_bipush (v := (nI 14)) hx hb dX5_seed_10 (by decide) ?_
  refine rn_iald hx hb hK hP 1 0 rfl rfl (i := 14) (by omega) (by decide) (v := (nI (Bw 14))) rfl dX5_seed_12 ?_
  refine lv_istore_n (lv' := [(2, .int (nI (Bw 14))), (0, .ref m0), (1, .int (nI d))]) hx hb dX5_seed_13 rfl hl (by decide) rfl (fun ls hl => ?_)
  refine lv_aload_n hx hb dX5_seed_14 rfl (lv_at hl 1 rfl) ?_
  refine va_get (D := (dC, dI)) (ci := 5) (v := .ref mw) (C := RX5) (T := TX5) (N := 15) hx hb hts hiX5 hown hK hP 0 rfl rfl 0 (by decide) (hts (.fieldLink RX5 7 "RestRegistersModel" "w" "[I") (by decide +kernel)) (fun _ h9 => h9) rfl dX5_seed_15 ?_
  refine lv_bipush (v := (nI 14)) hx hb dX5_seed_18 (by decide) ?_
  refine lv_iload_n hx hb dX5_seed_20 rfl (lv_at hl 2 rfl) ?_
  refine rn_iast hx hb hK hP hD hS 1 0 rfl rfl (i := 14) (by omega) (by decide) (g := nA (uN Bw 14 d)) (nA_upd _ _ _) dX5_seed_21 (fun H locs hP hD hS => ?_)
  have hP : va_P (dC, dI) vwCl [(m0, .inr (5, [.ref mw, .int (bi im), .ref mt, .int (nI tl), .ref ml, .ref mz, .ref mi, .ref mr, .int (nI at0), .int (nI st0), .int (nI nu), .int (nI rm), .int (nI rh), .ref md, .ref mh])), (mw, .inl (cI, 480, .inl (nA (uN Bw 14 d))))] H := hP
  have hD : va_D A [(m0, .inr (5, [.ref mw, .int (bi im), .ref mt, .int (nI tl), .ref ml, .ref mz, .ref mi, .ref mr, .int (nI at0), .int (nI st0), .int (nI nu), .int (nI rm), .int (nI rh), .ref md, .ref mh])), (mw, .inl (cI, 480, .inl (nA (uN Bw 14 d))))] := hD
  refine lv_iload_n hx hb dX5_seed_22 rfl (lv_at hl 0 rfl) ?_
  exact rr_iretW hx hb hr hlocks dX5_seed_23 hP hD hS (rfl)
set_option maxHeartbeats 4000000 in
set_option maxRecDepth 100000 in
theorem c_X5_seed_b (l : Launch) (dC : Nat → ClassId) (dI : Nat → Nat → Nat) (cI cJ cS : ClassId) (m0 mw mt ml mz mi mr md mh : Nat) (im : Bool) (tl at0 st0 nu rm rh : Nat) (Bw : Nat → Nat) (x : Int32) (hbad : ¬ 0 ≤ x) : Met l yX5_seed wsX5_seed ({ frames := 0, cells := 0, slots := 0, locals := 0 }) (va_Pc [.ref m0, .int x] (rB (dC, dI) vwCl [(m0, .inr (5, [.ref mw, .int (bi im), .ref mt, .int (nI tl), .ref ml, .ref mz, .ref mi, .ref mr, .int (nI at0), .int (nI st0), .int (nI nu), .int (nI rm), .int (nI rh), .ref md, .ref mh])), (mw, .inl (cI, 480, .inl (nA Bw)))] (tyz cI cJ cS))) (QcRead (-1)) 0 0 (fun _ => False) := by
  refine Met.ofW (cc := cX5_seed) (maxL := 3) (ret := (some .int)) (by decide) rfl ?_
  intro p e s m args below meth c s₁ B hml hv
  obtain ⟨rfl, hP, hKK⟩ := hv
  have hK := hKK.1
  have hx := B.exec
  have hb := B.bytes
  have hr := B.returns
  have hts := atoms_spec (ws := wsX5_seed) B.pre
  have hown : s.vm.findClass RX5 = some m.cls := findClass_of_methodNamed B.named
  have hlocks := B.notSynchronized
  have hiX5 : ∀ w ∈ wsX50, w ∈ wsX5_seed := by decide +kernel
  have hl := lv_entry ([.ref m0, .int x]) (n := 3) (Nat.le_of_ble_eq_true rfl)
  rw [lg_entry_eq]
  generalize (lg_sl ([.ref m0, .int x]) ++ List.replicate (3 - (lg_sl ([.ref m0, .int x])).length) Slot.unset).toArray = ls at hl ⊢
  have hl : lv_has ls 3 [(0, .ref m0), (1, .int x)] := hl
  refine lv_iload_n hx hb dX5_seed_0 rfl (lv_at hl 1 rfl) ?_
  refine lv_if_ge (tgt := 6) hx hb dX5_seed_1 (by decide) (fun c1 => ?_) (fun c1 => ?_)
  · skip
    exact absurd c1 hbad
  refine lv_iconst (v := (-1)) hx hb dX5_seed_4 (by decide) ?_
  exact rr_iret hx hb hr hlocks dX5_seed_5 (rfl)
set_option maxHeartbeats 4000000 in
set_option maxRecDepth 100000 in
theorem c_X5_figure_g (l : Launch) (dC : Nat → ClassId) (dI : Nat → Nat → Nat) (cI cJ cS : ClassId) (sz : Nat) (m0 mw mt ml mz mi mr md mh : Nat) (im : Bool) (tl at0 st0 nu rm rh : Nat) (Bw Rs : Nat → Nat) (r k : Nat) (hm : mOk Bw) (hr4 : r < 4) (hk2 : k < Bw 0) : Met l yX5_figure wsX5_figure ({ frames := 2, cells := 0, slots := 0, locals := 46 }) (va_Pc [.ref m0, .int (nI r), .int (nI k)] (rW (dC, dI) vwCl [(m0, .inr (5, [.ref mw, .int (bi im), .ref mt, .int (nI tl), .ref ml, .ref mz, .ref mi, .ref mr, .int (nI at0), .int (nI st0), .int (nI nu), .int (nI rm), .int (nI rh), .ref md, .ref mh])), (mw, .inl (cI, 480, .inl (nA Bw))), (mr, .inl (cI, 6, .inl (nA Rs)))] (tyz cI cJ cS) sz)) (qIs (nI (VB Bw r / prW (wdB Bw) k % wdB Bw k)) (dC, dI) vwCl (fun Rq => [(m0, .inr (5, [.ref mw, .int (bi im), .ref mt, .int (nI tl), .ref ml, .ref mz, .ref mi, .ref mr, .int (nI at0), .int (nI st0), .int (nI nu), .int (nI rm), .int (nI rh), .ref md, .ref mh])), (mw, .inl (cI, 480, .inl (nA Bw))), (mr, .inl (cI, 6, .inl (nA Rq)))]) (va_A [(m0, .inr (5, [.ref mw, .int (bi im), .ref mt, .int (nI tl), .ref ml, .ref mz, .ref mi, .ref mr, .int (nI at0), .int (nI st0), .int (nI nu), .int (nI rm), .int (nI rh), .ref md, .ref mh])), (mw, .inl (cI, 480, .inl (nA Bw))), (mr, .inl (cI, 6, .inl (nA Rs)))] sz)) 0 0 (va_A [(m0, .inr (5, [.ref mw, .int (bi im), .ref mt, .int (nI tl), .ref ml, .ref mz, .ref mi, .ref mr, .int (nI at0), .int (nI st0), .int (nI nu), .int (nI rm), .int (nI rh), .ref md, .ref mh])), (mw, .inl (cI, 480, .inl (nA Bw))), (mr, .inl (cI, 6, .inl (nA Rs)))] sz) := by
  refine Met.ofW (cc := cX5_figure) (maxL := 3) (ret := (some .int)) (by decide) rfl ?_
  intro p e s m args below meth c s₁ B hml hv
  obtain ⟨rfl, hsz, hP, hKK, hD0⟩ := hv
  have hK := hKK.1
  have hx := B.exec
  have hb := B.bytes
  have hr := B.returns
  have hts := atoms_spec (ws := wsX5_figure) B.pre
  have hown : s.vm.findClass RX5 = some m.cls := findClass_of_methodNamed B.named
  have hlocks := B.notSynchronized
  subst hsz
  have hD := hD0.self (sz := s.heap.size)
  generalize hAe : va_A [(m0, .inr (5, [.ref mw, .int (bi im), .ref mt, .int (nI tl), .ref ml, .ref mz, .ref mi, .ref mr, .int (nI at0), .int (nI st0), .int (nI nu), .int (nI rm), .int (nI rh), .ref md, .ref mh])), (mw, .inl (cI, 480, .inl (nA Bw))), (mr, .inl (cI, 6, .inl (nA Rs)))] s.heap.size = A at hD ⊢
  have hA : ∀ q : Nat, s.heap.size ≤ q → A q := fun q h => by rw [← hAe]; exact Or.inr h
  have hS : va_S A s.heap s.heap [] := va_S.rf
  have hP : va_P (dC, dI) vwCl [(m0, .inr (5, [.ref mw, .int (bi im), .ref mt, .int (nI tl), .ref ml, .ref mz, .ref mi, .ref mr, .int (nI at0), .int (nI st0), .int (nI nu), .int (nI rm), .int (nI rh), .ref md, .ref mh])), (mw, .inl (cI, 480, .inl (nA Bw))), (mr, .inl (cI, 6, .inl (nA Rs)))] s.heap := hP
  have hiX5 : ∀ w ∈ wsX50, w ∈ wsX5_figure := by decide +kernel
  have hl := lv_entry ([.ref m0, .int (nI r), .int (nI k)]) (n := 3) (Nat.le_of_ble_eq_true rfl)
  rw [lg_entry_eq]
  generalize (lg_sl ([.ref m0, .int (nI r), .int (nI k)]) ++ List.replicate (3 - (lg_sl ([.ref m0, .int (nI r), .int (nI k)])).length) Slot.unset).toArray = ls at hl ⊢
  have hl : lv_has ls 3 [(0, .ref m0), (1, .int (nI r)), (2, .int (nI k))] := hl
  have hn6 := hm.n
  have hvb := VB_b hm hr4
  have hpb := prW_b hm.w (j := k) (by omega)
  refine lv_iload_n hx hb dX5_figure_0 rfl (lv_at hl 1 rfl) ?_
  refine rr_callR (va_runS (As := [.int (nI r)]) (rest := []) ⟨hx, hb, hml, hown, hts⟩ (c_X5_isRegister l (nI r) ) (va_cwS 1 hts gX5_figure_X5_isRegister rfl rfl rfl (by decide +kernel) ⟨Nat.le_of_ble_eq_true rfl, Nat.le_of_ble_eq_true rfl⟩) rr_preT rfl rfl hl.1 rfl (lv_room (Nat.le_of_ble_eq_true rfl)) dX5_figure_1 ⟨Nat.zero_le _, Nat.zero_le _⟩) ?_
  refine rr_top (y := bi true) (congrArg bi (inb_lt (by omega) (by omega))) ?_
  refine rb_if_eq (tgt := 39) hx hb dX5_figure_4 (by decide) (fun c4 => ?_) (fun c4 => ?_)
  · exact absurd c4 (by decide)
  refine lv_aload_n hx hb dX5_figure_7 rfl (lv_at hl 0 rfl) ?_
  refine lv_iload_n hx hb dX5_figure_8 rfl (lv_at hl 2 rfl) ?_
  refine rr_callR (va_runV (As := [.int (nI k)]) (rest := []) ⟨hx, hb, hml, hown, hts⟩ (c_X5_isWheel l dC dI cI cJ cS m0 mw mt ml mz mi mr md mh im tl at0 st0 nu rm rh Bw (nI k) (by first | assumption | omega)) (cwV 1 hts gX5_figure_X5_isWheel rfl rfl rfl (by decide +kernel) ⟨Nat.le_of_ble_eq_true rfl, Nat.le_of_ble_eq_true rfl⟩) (rr_preV hKK (hP.sub [0, 1] rfl) rfl rfl) rfl rfl hl.1 rfl (lv_room (Nat.le_of_ble_eq_true rfl)) dX5_figure_9 ⟨Nat.zero_le _, Nat.zero_le _⟩) ?_
  refine rr_top (y := bi true) (congrArg bi (inb_lt (by omega) (by omega))) ?_
  refine rb_if_eq (tgt := 39) hx hb dX5_figure_12 (by decide) (fun c12 => ?_) (fun c12 => ?_)
  · exact absurd c12 (by decide)
  refine lv_aload_n hx hb dX5_figure_15 rfl (lv_at hl 0 rfl) ?_
  refine lv_iload_n hx hb dX5_figure_16 rfl (lv_at hl 1 rfl) ?_
  refine rw_calli (va_runV (As := [.int (nI r)]) (rest := []) ⟨hx, hb, hml, hown, hts⟩ (c_X5_value l dC dI cI cJ cS _ m0 mw mt ml mz mi mr md mh im tl at0 st0 nu rm rh Bw Rs r (by first | assumption | omega) (by first | assumption | omega)) (cwV 1 hts gX5_figure_X5_value rfl rfl rfl (by decide +kernel) ⟨Nat.le_of_ble_eq_true rfl, Nat.le_of_ble_eq_true rfl⟩) (rw_preV hKK hP hD rfl rfl) rfl rfl hl.1 rfl (lv_room (Nat.le_of_ble_eq_true rfl)) dX5_figure_17 ⟨Nat.zero_le _, Nat.zero_le _⟩) (wr := []) hP hD hS hA [0, 1, 2] [] rfl rfl (by decide) (by decide) (fun H locs hP hD hS => ?_)
  have hP : va_P (dC, dI) vwCl [(m0, .inr (5, [.ref mw, .int (bi im), .ref mt, .int (nI tl), .ref ml, .ref mz, .ref mi, .ref mr, .int (nI at0), .int (nI st0), .int (nI nu), .int (nI rm), .int (nI rh), .ref md, .ref mh])), (mw, .inl (cI, 480, .inl (nA Bw))), (mr, .inl (cI, 6, .inl (nA (lkN Bw r 6 Rs))))] H := hP.sub [0, 1, 2] rfl
  have hD : va_D A [(m0, .inr (5, [.ref mw, .int (bi im), .ref mt, .int (nI tl), .ref ml, .ref mz, .ref mi, .ref mr, .int (nI at0), .int (nI st0), .int (nI nu), .int (nI rm), .int (nI rh), .ref md, .ref mh])), (mw, .inl (cI, 480, .inl (nA Bw))), (mr, .inl (cI, 6, .inl (nA (lkN Bw r 6 Rs))))] := hD.sub [0, 1, 2] (by decide) rfl
  refine lv_aload_n hx hb dX5_figure_20 rfl (lv_at hl 0 rfl) ?_
  refine lv_iload_n hx hb dX5_figure_21 rfl (lv_at hl 2 rfl) ?_
  refine rr_callR (va_runV (As := [.int (nI k)]) (rest := [.int (nI (VB Bw r))]) ⟨hx, hb, hml, hown, hts⟩ (c_X5_product l dC dI cI cJ cS m0 mw mt ml mz mi mr md mh im tl at0 st0 nu rm rh Bw k (by first | assumption | omega) (by first | assumption | omega)) (cwV 1 hts gX5_figure_X5_product rfl rfl rfl (by decide +kernel) ⟨Nat.le_of_ble_eq_true rfl, Nat.le_of_ble_eq_true rfl⟩) (rr_preV hKK (hP.sub [0, 1] rfl) rfl rfl) rfl rfl hl.1 rfl (lv_room (Nat.le_of_ble_eq_true rfl)) dX5_figure_22 ⟨Nat.zero_le _, Nat.zero_le _⟩) ?_
  refine rn_idiv hx hb dX5_figure_25 (by omega) (by omega) (by omega) ?_
  refine lv_aload_n hx hb dX5_figure_26 rfl (lv_at hl 0 rfl) ?_
  refine va_get (D := (dC, dI)) (ci := 5) (v := .ref mw) (C := RX5) (T := TX5) (N := 15) hx hb hts hiX5 hown hK hP 0 rfl rfl 0 (by decide) (hts (.fieldLink RX5 7 "RestRegistersModel" "w" "[I") (by decide +kernel)) (fun _ h9 => h9) rfl dX5_figure_27 ?_
  refine lv_bipush (v := (nI 8)) hx hb dX5_figure_30 (by decide) ?_
  refine lv_iload_n hx hb dX5_figure_32 rfl (lv_at hl 2 rfl) ?_
  refine rn_iadd hx hb dX5_figure_33 ?_
  refine rn_iald hx hb hK hP 1 0 rfl rfl (i := 8 + k) (by omega) (by decide) (v := (nI (wdB Bw k))) rfl dX5_figure_34 ?_
  have hv34 := hm.wd k (by omega)
  refine rn_irem hx hb dX5_figure_35 (Nat.lt_of_le_of_lt (Nat.div_le_self _ _) (by omega)) (by omega) (by omega) ?_
  refine lv_goto (tgt := 40) hx hb dX5_figure_36 (by decide) ?_
  exact rr_iretWs (u := (lkN Bw r 6 Rs)) hx hb hr hlocks dX5_figure_40 hP hD hS (rfl)
set_option maxHeartbeats 4000000 in
set_option maxRecDepth 100000 in
theorem c_X5_figure_b (l : Launch) (dC : Nat → ClassId) (dI : Nat → Nat → Nat) (cI cJ cS : ClassId) (m0 mw mt ml mz mi mr md mh : Nat) (im : Bool) (tl at0 st0 nu rm rh : Nat) (Bw : Nat → Nat) (x y : Int32) (hm : mOk Bw) (hbad : (inb x 4 && inb y (Bw 0)) = false) : Met l yX5_figure wsX5_figure ({ frames := 2, cells := 0, slots := 0, locals := 46 }) (va_Pc [.ref m0, .int x, .int y] (rB (dC, dI) vwCl [(m0, .inr (5, [.ref mw, .int (bi im), .ref mt, .int (nI tl), .ref ml, .ref mz, .ref mi, .ref mr, .int (nI at0), .int (nI st0), .int (nI nu), .int (nI rm), .int (nI rh), .ref md, .ref mh])), (mw, .inl (cI, 480, .inl (nA Bw)))] (tyz cI cJ cS))) (QcRead (-1)) 0 0 (fun _ => False) := by
  refine Met.ofW (cc := cX5_figure) (maxL := 3) (ret := (some .int)) (by decide) rfl ?_
  intro p e s m args below meth c s₁ B hml hv
  obtain ⟨rfl, hP, hKK⟩ := hv
  have hK := hKK.1
  have hx := B.exec
  have hb := B.bytes
  have hr := B.returns
  have hts := atoms_spec (ws := wsX5_figure) B.pre
  have hown : s.vm.findClass RX5 = some m.cls := findClass_of_methodNamed B.named
  have hlocks := B.notSynchronized
  have hiX5 : ∀ w ∈ wsX50, w ∈ wsX5_figure := by decide +kernel
  have hl := lv_entry ([.ref m0, .int x, .int y]) (n := 3) (Nat.le_of_ble_eq_true rfl)
  rw [lg_entry_eq]
  generalize (lg_sl ([.ref m0, .int x, .int y]) ++ List.replicate (3 - (lg_sl ([.ref m0, .int x, .int y])).length) Slot.unset).toArray = ls at hl ⊢
  have hl : lv_has ls 3 [(0, .ref m0), (1, .int x), (2, .int y)] := hl
  have hn6 := hm.n
  refine lv_iload_n hx hb dX5_figure_0 rfl (lv_at hl 1 rfl) ?_
  refine rr_callR (va_runS (As := [.int x]) (rest := []) ⟨hx, hb, hml, hown, hts⟩ (c_X5_isRegister l x ) (va_cwS 1 hts gX5_figure_X5_isRegister rfl rfl rfl (by decide +kernel) ⟨Nat.le_of_ble_eq_true rfl, Nat.le_of_ble_eq_true rfl⟩) rr_preT rfl rfl hl.1 rfl (lv_room (Nat.le_of_ble_eq_true rfl)) dX5_figure_1 ⟨Nat.zero_le _, Nat.zero_le _⟩) ?_
  refine rb_if_eq (tgt := 39) hx hb dX5_figure_4 (by decide) (fun c4 => ?_) (fun c4 => ?_)
  · skip
    refine lv_iconst (v := (-1)) hx hb dX5_figure_39 (by decide) ?_
    exact rr_iret hx hb hr hlocks dX5_figure_40 (rfl)
  refine lv_aload_n hx hb dX5_figure_7 rfl (lv_at hl 0 rfl) ?_
  refine lv_iload_n hx hb dX5_figure_8 rfl (lv_at hl 2 rfl) ?_
  refine rr_callR (va_runV (As := [.int y]) (rest := []) ⟨hx, hb, hml, hown, hts⟩ (c_X5_isWheel l dC dI cI cJ cS m0 mw mt ml mz mi mr md mh im tl at0 st0 nu rm rh Bw y (by first | assumption | omega)) (cwV 1 hts gX5_figure_X5_isWheel rfl rfl rfl (by decide +kernel) ⟨Nat.le_of_ble_eq_true rfl, Nat.le_of_ble_eq_true rfl⟩) (rr_preV hKK hP rfl rfl) rfl rfl hl.1 rfl (lv_room (Nat.le_of_ble_eq_true rfl)) dX5_figure_9 ⟨Nat.zero_le _, Nat.zero_le _⟩) ?_
  refine rb_if_eq (tgt := 39) hx hb dX5_figure_12 (by decide) (fun c12 => ?_) (fun c12 => ?_)
  · skip
    refine lv_iconst (v := (-1)) hx hb dX5_figure_39 (by decide) ?_
    exact rr_iret hx hb hr hlocks dX5_figure_40 (rfl)
  exact absurd hbad (by rw [c4, c12]; decide)
set_option maxHeartbeats 4000000 in
set_option maxRecDepth 100000 in
theorem c_X5_order_g (l : Launch) (dC : Nat → ClassId) (dI : Nat → Nat → Nat) (cI cJ cS : ClassId) (sz : Nat) (m0 mw mt ml mz mi mr md mh : Nat) (im : Bool) (tl at0 st0 nu rm rh : Nat) (Bw Rs : Nat → Nat) (r o : Nat) (hm : mOk Bw) (hr4 : r < 4) (ho4 : o < 4) : Met l yX5_order wsX5_order ({ frames := 2, cells := 0, slots := 0, locals := 45 }) (va_Pc [.ref m0, .int (nI r), .int (nI o)] (rW (dC, dI) vwCl [(m0, .inr (5, [.ref mw, .int (bi im), .ref mt, .int (nI tl), .ref ml, .ref mz, .ref mi, .ref mr, .int (nI at0), .int (nI st0), .int (nI nu), .int (nI rm), .int (nI rh), .ref md, .ref mh])), (mw, .inl (cI, 480, .inl (nA Bw))), (mr, .inl (cI, 6, .inl (nA Rs)))] (tyz cI cJ cS) sz)) (qIs (nI (orI (VB Bw r) (VB Bw o))) (dC, dI) vwCl (fun Rq => [(m0, .inr (5, [.ref mw, .int (bi im), .ref mt, .int (nI tl), .ref ml, .ref mz, .ref mi, .ref mr, .int (nI at0), .int (nI st0), .int (nI nu), .int (nI rm), .int (nI rh), .ref md, .ref mh])), (mw, .inl (cI, 480, .inl (nA Bw))), (mr, .inl (cI, 6, .inl (nA Rq)))]) (va_A [(m0, .inr (5, [.ref mw, .int (bi im), .ref mt, .int (nI tl), .ref ml, .ref mz, .ref mi, .ref mr, .int (nI at0), .int (nI st0), .int (nI nu), .int (nI rm), .int (nI rh), .ref md, .ref mh])), (mw, .inl (cI, 480, .inl (nA Bw))), (mr, .inl (cI, 6, .inl (nA Rs)))] sz)) 0 0 (va_A [(m0, .inr (5, [.ref mw, .int (bi im), .ref mt, .int (nI tl), .ref ml, .ref mz, .ref mi, .ref mr, .int (nI at0), .int (nI st0), .int (nI nu), .int (nI rm), .int (nI rh), .ref md, .ref mh])), (mw, .inl (cI, 480, .inl (nA Bw))), (mr, .inl (cI, 6, .inl (nA Rs)))] sz) := by
  refine Met.ofW (cc := cX5_order) (maxL := 5) (ret := (some .int)) (by decide) rfl ?_
  intro p e s m args below meth c s₁ B hml hv
  obtain ⟨rfl, hsz, hP, hKK, hD0⟩ := hv
  have hK := hKK.1
  have hx := B.exec
  have hb := B.bytes
  have hr := B.returns
  have hts := atoms_spec (ws := wsX5_order) B.pre
  have hown : s.vm.findClass RX5 = some m.cls := findClass_of_methodNamed B.named
  have hlocks := B.notSynchronized
  subst hsz
  have hD := hD0.self (sz := s.heap.size)
  generalize hAe : va_A [(m0, .inr (5, [.ref mw, .int (bi im), .ref mt, .int (nI tl), .ref ml, .ref mz, .ref mi, .ref mr, .int (nI at0), .int (nI st0), .int (nI nu), .int (nI rm), .int (nI rh), .ref md, .ref mh])), (mw, .inl (cI, 480, .inl (nA Bw))), (mr, .inl (cI, 6, .inl (nA Rs)))] s.heap.size = A at hD ⊢
  have hA : ∀ q : Nat, s.heap.size ≤ q → A q := fun q h => by rw [← hAe]; exact Or.inr h
  have hS : va_S A s.heap s.heap [] := va_S.rf
  have hP : va_P (dC, dI) vwCl [(m0, .inr (5, [.ref mw, .int (bi im), .ref mt, .int (nI tl), .ref ml, .ref mz, .ref mi, .ref mr, .int (nI at0), .int (nI st0), .int (nI nu), .int (nI rm), .int (nI rh), .ref md, .ref mh])), (mw, .inl (cI, 480, .inl (nA Bw))), (mr, .inl (cI, 6, .inl (nA Rs)))] s.heap := hP
  have hl := lv_entry ([.ref m0, .int (nI r), .int (nI o)]) (n := 5) (Nat.le_of_ble_eq_true rfl)
  rw [lg_entry_eq]
  generalize (lg_sl ([.ref m0, .int (nI r), .int (nI o)]) ++ List.replicate (5 - (lg_sl ([.ref m0, .int (nI r), .int (nI o)])).length) Slot.unset).toArray = ls at hl ⊢
  have hl : lv_has ls 5 [(0, .ref m0), (1, .int (nI r)), (2, .int (nI o))] := hl
  have hn6 := hm.n
  have hvb := VB_b hm hr4
  have hvo := VB_b hm ho4
  refine lv_iload_n hx hb dX5_order_0 rfl (lv_at hl 1 rfl) ?_
  refine rr_callR (va_runS (As := [.int (nI r)]) (rest := []) ⟨hx, hb, hml, hown, hts⟩ (c_X5_isRegister l (nI r) ) (va_cwS 1 hts gX5_order_X5_isRegister rfl rfl rfl (by decide +kernel) ⟨Nat.le_of_ble_eq_true rfl, Nat.le_of_ble_eq_true rfl⟩) rr_preT rfl rfl hl.1 rfl (lv_room (Nat.le_of_ble_eq_true rfl)) dX5_order_1 ⟨Nat.zero_le _, Nat.zero_le _⟩) ?_
  refine rr_top (y := bi true) (congrArg bi (inb_lt (by omega) (by omega))) ?_
  refine rb_if_eq (tgt := 14) hx hb dX5_order_4 (by decide) (fun c4 => ?_) (fun c4 => ?_)
  · exact absurd c4 (by decide)
  refine lv_iload_n hx hb dX5_order_7 rfl (lv_at hl 2 rfl) ?_
  refine rr_callR (va_runS (As := [.int (nI o)]) (rest := []) ⟨hx, hb, hml, hown, hts⟩ (c_X5_isRegister l (nI o) ) (va_cwS 1 hts gX5_order_X5_isRegister rfl rfl rfl (by decide +kernel) ⟨Nat.le_of_ble_eq_true rfl, Nat.le_of_ble_eq_true rfl⟩) rr_preT rfl rfl hl.1 rfl (lv_room (Nat.le_of_ble_eq_true rfl)) dX5_order_8 ⟨Nat.zero_le _, Nat.zero_le _⟩) ?_
  refine rr_top (y := bi true) (congrArg bi (inb_lt (by omega) (by omega))) ?_
  refine rb_if_ne (tgt := 16) hx hb dX5_order_11 (by decide) (fun c11 => ?_) (fun c11 => ?_)
  rotate_left
  · exact absurd c11 (by decide)
  refine lv_aload_n hx hb dX5_order_16 rfl (lv_at hl 0 rfl) ?_
  refine lv_iload_n hx hb dX5_order_17 rfl (lv_at hl 1 rfl) ?_
  refine rw_calli (va_runV (As := [.int (nI r)]) (rest := []) ⟨hx, hb, hml, hown, hts⟩ (c_X5_value l dC dI cI cJ cS _ m0 mw mt ml mz mi mr md mh im tl at0 st0 nu rm rh Bw Rs r (by first | assumption | omega) (by first | assumption | omega)) (cwV 1 hts gX5_order_X5_value rfl rfl rfl (by decide +kernel) ⟨Nat.le_of_ble_eq_true rfl, Nat.le_of_ble_eq_true rfl⟩) (rw_preV hKK hP hD rfl rfl) rfl rfl hl.1 rfl (lv_room (Nat.le_of_ble_eq_true rfl)) dX5_order_18 ⟨Nat.zero_le _, Nat.zero_le _⟩) (wr := []) hP hD hS hA [0, 1, 2] [] rfl rfl (by decide) (by decide) (fun H locs hP hD hS => ?_)
  have hP : va_P (dC, dI) vwCl [(m0, .inr (5, [.ref mw, .int (bi im), .ref mt, .int (nI tl), .ref ml, .ref mz, .ref mi, .ref mr, .int (nI at0), .int (nI st0), .int (nI nu), .int (nI rm), .int (nI rh), .ref md, .ref mh])), (mw, .inl (cI, 480, .inl (nA Bw))), (mr, .inl (cI, 6, .inl (nA (lkN Bw r 6 Rs))))] H := hP.sub [0, 1, 2] rfl
  have hD : va_D A [(m0, .inr (5, [.ref mw, .int (bi im), .ref mt, .int (nI tl), .ref ml, .ref mz, .ref mi, .ref mr, .int (nI at0), .int (nI st0), .int (nI nu), .int (nI rm), .int (nI rh), .ref md, .ref mh])), (mw, .inl (cI, 480, .inl (nA Bw))), (mr, .inl (cI, 6, .inl (nA (lkN Bw r 6 Rs))))] := hD.sub [0, 1, 2] (by decide) rfl
  refine lv_istore_n (lv' := [(3, .int (nI (VB Bw r))), (0, .ref m0), (1, .int (nI r)), (2, .int (nI o))]) hx hb dX5_order_21 rfl hl (by decide) rfl (fun ls hl => ?_)
  refine lv_aload_n hx hb dX5_order_22 rfl (lv_at hl 1 rfl) ?_
  refine lv_iload_n hx hb dX5_order_23 rfl (lv_at hl 3 rfl) ?_
  refine rw_calli (va_runV (As := [.int (nI o)]) (rest := []) ⟨hx, hb, hml, hown, hts⟩ (c_X5_value l dC dI cI cJ cS _ m0 mw mt ml mz mi mr md mh im tl at0 st0 nu rm rh Bw (lkN Bw r 6 Rs) o (by first | assumption | omega) (by first | assumption | omega)) (cwV 1 hts gX5_order_X5_value rfl rfl rfl (by decide +kernel) ⟨Nat.le_of_ble_eq_true rfl, Nat.le_of_ble_eq_true rfl⟩) (rw_preV hKK hP hD rfl rfl) rfl rfl hl.1 rfl (lv_room (Nat.le_of_ble_eq_true rfl)) dX5_order_24 ⟨Nat.zero_le _, Nat.zero_le _⟩) (wr := []) hP hD hS hA [0, 1, 2] [] rfl rfl (by decide) (by decide) (fun H locs hP hD hS => ?_)
  have hP : va_P (dC, dI) vwCl [(m0, .inr (5, [.ref mw, .int (bi im), .ref mt, .int (nI tl), .ref ml, .ref mz, .ref mi, .ref mr, .int (nI at0), .int (nI st0), .int (nI nu), .int (nI rm), .int (nI rh), .ref md, .ref mh])), (mw, .inl (cI, 480, .inl (nA Bw))), (mr, .inl (cI, 6, .inl (nA (lkN Bw o 6 (lkN Bw r 6 Rs)))))] H := hP.sub [0, 1, 2] rfl
  have hD : va_D A [(m0, .inr (5, [.ref mw, .int (bi im), .ref mt, .int (nI tl), .ref ml, .ref mz, .ref mi, .ref mr, .int (nI at0), .int (nI st0), .int (nI nu), .int (nI rm), .int (nI rh), .ref md, .ref mh])), (mw, .inl (cI, 480, .inl (nA Bw))), (mr, .inl (cI, 6, .inl (nA (lkN Bw o 6 (lkN Bw r 6 Rs)))))] := hD.sub [0, 1, 2] (by decide) rfl
  refine lv_istore (lv' := [(4, .int (nI (VB Bw o))), (3, .int (nI (VB Bw r))), (0, .ref m0), (1, .int (nI r)), (2, .int (nI o))]) hx hb dX5_order_27 hl (by decide) rfl (fun ls hl => ?_)
  refine lv_iload_n hx hb dX5_order_29 rfl (lv_at hl 1 rfl) ?_
  refine lv_iload hx hb dX5_order_30 (lv_at hl 0 rfl) ?_
  refine rn_icmp_ge (tgt := 39) hx hb dX5_order_32 (by decide) (by omega) (by omega) (fun c32 => ?_) (fun c32 => ?_)
  · skip
    refine lv_iload_n hx hb dX5_order_39 rfl (lv_at hl 1 rfl) ?_
    refine lv_iload hx hb dX5_order_40 (lv_at hl 0 rfl) ?_
    refine rn_icmp_ne (tgt := 49) hx hb dX5_order_42 (by decide) (by omega) (by omega) (fun c42 => ?_) (fun c42 => ?_)
    · skip
      refine lv_iconst (v := (nI 2)) hx hb dX5_order_49 (by decide) ?_
      exact rr_iretWs (u := (lkN Bw o 6 (lkN Bw r 6 Rs))) hx hb hr hlocks dX5_order_50 hP hD hS (congrArg nI (by unfold orI; (repeat' split) <;> omega))
    refine lv_iconst (v := (nI 1)) hx hb dX5_order_45 (by decide) ?_
    refine lv_goto (tgt := 50) hx hb dX5_order_46 (by decide) ?_
    exact rr_iretWs (u := (lkN Bw o 6 (lkN Bw r 6 Rs))) hx hb hr hlocks dX5_order_50 hP hD hS (congrArg nI (by unfold orI; (repeat' split) <;> omega))
  refine lv_iconst (v := (nI 0)) hx hb dX5_order_35 (by decide) ?_
  refine lv_goto (tgt := 50) hx hb dX5_order_36 (by decide) ?_
  exact rr_iretWs (u := (lkN Bw o 6 (lkN Bw r 6 Rs))) hx hb hr hlocks dX5_order_50 hP hD hS (congrArg nI (by unfold orI; (repeat' split) <;> omega))
set_option maxHeartbeats 4000000 in
set_option maxRecDepth 100000 in
theorem c_X5_order_b (l : Launch) (dC : Nat → ClassId) (dI : Nat → Nat → Nat) (cI cJ cS : ClassId) (m0 mw mt ml mz mi mr md mh : Nat) (im : Bool) (tl at0 st0 nu rm rh : Nat) (Bw : Nat → Nat) (x y : Int32) (hm : mOk Bw) (hbad : (inb x 4 && inb y 4) = false) : Met l yX5_order wsX5_order ({ frames := 2, cells := 0, slots := 0, locals := 45 }) (va_Pc [.ref m0, .int x, .int y] (rB (dC, dI) vwCl [(m0, .inr (5, [.ref mw, .int (bi im), .ref mt, .int (nI tl), .ref ml, .ref mz, .ref mi, .ref mr, .int (nI at0), .int (nI st0), .int (nI nu), .int (nI rm), .int (nI rh), .ref md, .ref mh])), (mw, .inl (cI, 480, .inl (nA Bw)))] (tyz cI cJ cS))) (QcRead (-1)) 0 0 (fun _ => False) := by
  refine Met.ofW (cc := cX5_order) (maxL := 5) (ret := (some .int)) (by decide) rfl ?_
  intro p e s m args below meth c s₁ B hml hv
  obtain ⟨rfl, hP, hKK⟩ := hv
  have hK := hKK.1
  have hx := B.exec
  have hb := B.bytes
  have hr := B.returns
  have hts := atoms_spec (ws := wsX5_order) B.pre
  have hown : s.vm.findClass RX5 = some m.cls := findClass_of_methodNamed B.named
  have hlocks := B.notSynchronized
  have hl := lv_entry ([.ref m0, .int x, .int y]) (n := 5) (Nat.le_of_ble_eq_true rfl)
  rw [lg_entry_eq]
  generalize (lg_sl ([.ref m0, .int x, .int y]) ++ List.replicate (5 - (lg_sl ([.ref m0, .int x, .int y])).length) Slot.unset).toArray = ls at hl ⊢
  have hl : lv_has ls 5 [(0, .ref m0), (1, .int x), (2, .int y)] := hl
  have hn6 := hm.n
  refine lv_iload_n hx hb dX5_order_0 rfl (lv_at hl 1 rfl) ?_
  refine rr_callR (va_runS (As := [.int x]) (rest := []) ⟨hx, hb, hml, hown, hts⟩ (c_X5_isRegister l x ) (va_cwS 1 hts gX5_order_X5_isRegister rfl rfl rfl (by decide +kernel) ⟨Nat.le_of_ble_eq_true rfl, Nat.le_of_ble_eq_true rfl⟩) rr_preT rfl rfl hl.1 rfl (lv_room (Nat.le_of_ble_eq_true rfl)) dX5_order_1 ⟨Nat.zero_le _, Nat.zero_le _⟩) ?_
  refine rb_if_eq (tgt := 14) hx hb dX5_order_4 (by decide) (fun c4 => ?_) (fun c4 => ?_)
  · skip
    refine lv_iconst (v := (-1)) hx hb dX5_order_14 (by decide) ?_
    exact rr_iret hx hb hr hlocks dX5_order_15 (rfl)
  refine lv_iload_n hx hb dX5_order_7 rfl (lv_at hl 2 rfl) ?_
  refine rr_callR (va_runS (As := [.int y]) (rest := []) ⟨hx, hb, hml, hown, hts⟩ (c_X5_isRegister l y ) (va_cwS 1 hts gX5_order_X5_isRegister rfl rfl rfl (by decide +kernel) ⟨Nat.le_of_ble_eq_true rfl, Nat.le_of_ble_eq_true rfl⟩) rr_preT rfl rfl hl.1 rfl (lv_room (Nat.le_of_ble_eq_true rfl)) dX5_order_8 ⟨Nat.zero_le _, Nat.zero_le _⟩) ?_
  refine rb_if_ne (tgt := 16) hx hb dX5_order_11 (by decide) (fun c11 => ?_) (fun c11 => ?_)
  · skip
    exact absurd hbad (by rw [c4, c11]; decide)
  refine lv_iconst (v := (-1)) hx hb dX5_order_14 (by decide) ?_
  exact rr_iret hx hb hr hlocks dX5_order_15 (rfl)
