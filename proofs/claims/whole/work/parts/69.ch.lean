section LC
variable {p : Program} {l : Launch} {e : Env} {s : State} {m : MethodId} {below : List Frame} {meth : Method} {c : Code} {b L : Nat} {xs : Nat → Int32} {dC : Nat → ClassId} {dI : Nat → Nat → Nat} {cI cJ cS : ClassId} {A : Nat → Prop} {aK aV : Nat} {xa sd sq : Nat → Nat} {i : Nat} {H : Heap} {locs : List Loc} {ls : Array Slot}
set_option maxHeartbeats 4000000 in
set_option maxRecDepth 100000 in
theorem lc_sheet (C0 : lwC p s m meth c b L xs dC dI cI cJ cS A aK aV) (hi : i + 6 ≤ L) (hk : ∀ (H : Heap) (locs : List Loc) (ls : Array Slot), LI dC dI cI cJ cS A s.heap xa sd sq b i H locs ls → W p l e room_1 s m #[Value.ref b] below meth c H locs 100 2000 (lw_Z below #[Value.ref b] s) (F0 m 1356 ls [])) (hI : LI dC dI cI cJ cS A s.heap xa sd sq b i H locs ls) : W p l e room_1 s m #[Value.ref b] below meth c H locs 100 2000 (lw_Z below #[Value.ref b] s) (F0 m 1144 ls []) := by
  obtain ⟨hx, hb, hr, hml, hown, hts, hX, hbl, hlocks, hKK, hZ, hA, hbA, hL⟩ := C0
  obtain ⟨im, _, _, _, _, _, _, nx, kf, wf, sf, Rr, Pr, Pd, tn, tp, n2, h2, rg2, sp2, Tp, Kq, Wq, sf2, n1, h1, rg1, sp1, dr1, kn1, nx1, kf1, wf1, sf1, R1, P1, D1, Th, Ln, Sz, Rw, at0, st0, nu, rm, rh, Bw, It, Rs, Rd, Hl, ⟨rfl, rfl, rfl, rfl, rfl, rfl, q⟩, hkr, ht, hsr, hP, hD, hS, hl⟩ := hI
  have hm : mOk Bw := q.1
  have ok : wOk (Bw 0) (kdB Bw) (wdB Bw) := hm.1
  have fk : isA (Bw 0) kf (kdB Bw) := q.2.1
  have fw : isA (Bw 0) wf (wdB Bw) := q.2.2.1
  obtain ⟨Sh, fs, hSo⟩ := q.2.2.2.1
  have hre : reR (Bw 0) Rr Bw := q.2.2.2.2.1
  have hnx : nx < 8 := q.2.2.2.2.2.1
  have hSs : ∀ j, j < Bw 0 → Sh j < spB Bw := fun j hj => (hSo j hj).1
  have hsp : spB Bw ≤ 47045881 := (spB_b hm).2
  have hsp0 : 0 < spB Bw := (spB_b hm).1
  have hrg : rgB Bw < 2 ^ 31 := by have := (rgB_b hm).2; omega
  have hR : rOk (Bw 0) (wdB Bw) Rr := q.ro
  have hkn : Bw 39 ≤ 8 := hm.2.2.2.1
  have hh : Bw 1 ≤ Bw 0 := hm.2.1
  have h6 : Bw 0 ≤ 6 := hm.n
  obtain ⟨hz, hl3, hit⟩ := id hsr
  obtain ⟨v1, e1⟩ : ∃ v, xs (i + 1) = v := ⟨_, rfl⟩
  obtain ⟨v2, e2⟩ : ∃ v, xs (i + 2) = v := ⟨_, rfl⟩
  obtain ⟨v3, e3⟩ : ∃ v, xs (i + 3) = v := ⟨_, rfl⟩
  refine lv_aload_n hx hb dL_law_1144 rfl (lv_at hl 1 rfl) ?_
  refine la_arg hx hb hX hbl hbA hS hl hL e1 (by omega) dL_law_1145 dL_law_1146 dL_law_1147 (by decide) dL_law_1148 dL_law_1149 ?_
  refine la_arg hx hb hX hbl hbA hS hl hL e2 (by omega) dL_law_1150 dL_law_1151 dL_law_1152 (by decide) dL_law_1153 dL_law_1154 ?_
  refine la_arg hx hb hX hbl hbA hS hl hL e3 (by omega) dL_law_1155 dL_law_1156 dL_law_1157 (by decide) dL_law_1158 dL_law_1159 ?_
  by_cases hb1 : (inb v1 4 && inb v2 4) = false
  · skip
    refine rr_callR (va_runV (As := [.int v1, .int v2, .int v3]) (rest := []) ⟨hx, hb, hml, hown, hts⟩ (c_X4_sheet_b1 l dC dI cI cJ cS (xa 0) (xa 9) (xa 15) (xa 23) im (xa 1) (xa 2) (xa 3) (xa 4) (xa 5) (xa 6) (xa 7) (xa 8) (Bw 0) (Bw 1) (rgB Bw) (spB Bw) (Bw 14) (Bw 39) nx kf wf sf (kdB Bw) (wdB Bw) Sh Rr Pr Pd v1 v2 v3 (hb1)) (cwV 3 hts gL_law_X4_sheet rfl rfl rfl (by decide +kernel) ⟨Nat.le_of_ble_eq_true rfl, Nat.le_of_ble_eq_true rfl⟩) (rr_preV hKK (hP.sub [0, 1, 2, 3, 4, 5, 6, 7, 8] rfl) rfl rfl) rfl rfl hl.1 rfl (lv_room (Nat.le_of_ble_eq_true rfl)) dL_law_1160 ⟨Nat.le_of_ble_eq_true rfl, Nat.le_of_ble_eq_true rfl⟩) ?_
    refine lv_aload_n hx hb dL_law_1163 rfl (lv_at hl 2 rfl) ?_
    refine la_arg hx hb hX hbl hbA hS hl hL e1 (by omega) dL_law_1164 dL_law_1165 dL_law_1166 (by decide) dL_law_1167 dL_law_1168 ?_
    refine la_arg hx hb hX hbl hbA hS hl hL e2 (by omega) dL_law_1169 dL_law_1170 dL_law_1171 (by decide) dL_law_1172 dL_law_1173 ?_
    refine la_arg hx hb hX hbl hbA hS hl hL e3 (by omega) dL_law_1174 dL_law_1175 dL_law_1176 (by decide) dL_law_1177 dL_law_1178 ?_
    refine rr_callR (va_runV (As := [.int v1, .int v2, .int v3]) (rest := [.int (-1)]) ⟨hx, hb, hml, hown, hts⟩ (c_X5_sheet_b1 l dC dI cI cJ cS (xa 32) (xa 33) (xa 34) (xa 35) (xa 36) (xa 37) (xa 38) (xa 39) (xa 40) im tn at0 st0 nu rm rh Bw v1 v2 v3 (hb1)) (cwV 3 hts gL_law_X5_sheet rfl rfl rfl (by decide +kernel) ⟨Nat.le_of_ble_eq_true rfl, Nat.le_of_ble_eq_true rfl⟩) (rr_preV hKK (hP.sub [32, 33] rfl) rfl rfl) rfl rfl hl.1 rfl (lv_room (Nat.le_of_ble_eq_true rfl)) dL_law_1179 ⟨Nat.le_of_ble_eq_true rfl, Nat.le_of_ble_eq_true rfl⟩) ?_
    refine lv_icmp_eq (tgt := 1356) hx hb dL_law_1182 (by decide) (fun _ => ?_) (fun c9 => absurd (rfl) c9)
    exact hk _ _ _ (LI_mk0 (nRl.rf q) (hkr) (ht) (hsr) hP hD hS hl)
  · simp only [Bool.not_eq_false, Bool.and_eq_true] at hb1
    obtain ⟨sh, hs4, rfl⟩ := inb_of (by decide) hb1.1
    obtain ⟨la, hla, rfl⟩ := inb_of (by decide) hb1.2
    by_cases hb2 : v3 ≤ nI 24
    · by_cases hb3 : v3 < 0
      · skip
        refine rr_callR (va_runV (As := [.int (nI sh), .int (nI la), .int v3]) (rest := []) ⟨hx, hb, hml, hown, hts⟩ (c_X4_sheet_z l dC dI cI cJ cS (xa 0) (xa 9) (xa 15) (xa 23) im (xa 1) (xa 2) (xa 3) (xa 4) (xa 5) (xa 6) (xa 7) (xa 8) (Bw 0) (Bw 1) (rgB Bw) (spB Bw) (Bw 14) (Bw 39) nx kf wf sf (kdB Bw) (wdB Bw) Sh Rr Pr Pd sh la v3 (hs4) (hla) (hb3)) (cwV 3 hts gL_law_X4_sheet rfl rfl rfl (by decide +kernel) ⟨Nat.le_of_ble_eq_true rfl, Nat.le_of_ble_eq_true rfl⟩) (rr_preV hKK (hP.sub [0, 1, 2, 3, 4, 5, 6, 7, 8] rfl) rfl rfl) rfl rfl hl.1 rfl (lv_room (Nat.le_of_ble_eq_true rfl)) dL_law_1160 ⟨Nat.le_of_ble_eq_true rfl, Nat.le_of_ble_eq_true rfl⟩) ?_
        refine lv_aload_n hx hb dL_law_1163 rfl (lv_at hl 2 rfl) ?_
        refine la_arg hx hb hX hbl hbA hS hl hL e1 (by omega) dL_law_1164 dL_law_1165 dL_law_1166 (by decide) dL_law_1167 dL_law_1168 ?_
        refine la_arg hx hb hX hbl hbA hS hl hL e2 (by omega) dL_law_1169 dL_law_1170 dL_law_1171 (by decide) dL_law_1172 dL_law_1173 ?_
        refine la_arg hx hb hX hbl hbA hS hl hL e3 (by omega) dL_law_1174 dL_law_1175 dL_law_1176 (by decide) dL_law_1177 dL_law_1178 ?_
        refine rr_callR (va_runV (As := [.int (nI sh), .int (nI la), .int v3]) (rest := [.int (-14)]) ⟨hx, hb, hml, hown, hts⟩ (c_X5_sheet_z l dC dI cI cJ cS (xa 32) (xa 33) (xa 34) (xa 35) (xa 36) (xa 37) (xa 38) (xa 39) (xa 40) im tn at0 st0 nu rm rh Bw sh la v3 (hs4) (hla) (hb3)) (cwV 3 hts gL_law_X5_sheet rfl rfl rfl (by decide +kernel) ⟨Nat.le_of_ble_eq_true rfl, Nat.le_of_ble_eq_true rfl⟩) (rr_preV hKK (hP.sub [32, 33] rfl) rfl rfl) rfl rfl hl.1 rfl (lv_room (Nat.le_of_ble_eq_true rfl)) dL_law_1179 ⟨Nat.le_of_ble_eq_true rfl, Nat.le_of_ble_eq_true rfl⟩) ?_
        refine lv_icmp_eq (tgt := 1356) hx hb dL_law_1182 (by decide) (fun _ => ?_) (fun c9 => absurd (rfl) c9)
        exact hk _ _ _ (LI_mk0 (nRl.rf q) (hkr) (ht) (hsr) hP hD hS hl)
      · obtain ⟨zz, hz24, rfl⟩ := le24_of hb2 hb3
        obtain ⟨i1, i2, i3, hpm, m1, m2, m3⟩ := pm1 hs4
        replace hP := pm_P hpm hP
        replace hD := pm_D hpm hD
        refine lq_calli (va_runV (As := [.int (nI sh), .int (nI la), .int (nI zz)]) (rest := []) ⟨hx, hb, hml, hown, hts⟩ (c_X4_sheet_g l dC dI cI cJ cS _ (xa 0) (xa 9) (xa 1) (xa 15) (xa 23) im sd sq sh (Th sh) (Ln sh) (Sz sh) (Rw sh) la zz (hs4) (hla) (hz24)) (cwV 3 hts gL_law_X4_sheet rfl rfl rfl (by decide +kernel) ⟨Nat.le_of_ble_eq_true rfl, Nat.le_of_ble_eq_true rfl⟩) (rw_preV hKK (hP.sub [0, 23, 24, 25] rfl) (hD.sub [0, 23, 24, 25] (by decide) rfl) rfl rfl) rfl rfl hl.1 rfl (lv_room (Nat.le_of_ble_eq_true rfl)) dL_law_1160 ⟨Nat.le_of_ble_eq_true rfl, Nat.le_of_ble_eq_true rfl⟩) hP hD hS hA [0, 23, 24, 25] [1, 2, 3, 4, 5, 6, 7, 8, 9, 10, 11, 12, 13, 14, 15, 16, 17, 18, 19, 20, 21, 22, 26, 27, 28, 29, 30, 31, 32, 33, 34, 35, 36, 37, 38, 39, 40] rfl rfl (by decide) (by decide) [37, 0, 1, 2, 3, 4, 5, 6, 7, 8, 9, 10, 11, 12, 13, 14, 15, 16, 17, 18, 19, 20, 21, 38, 39, 40, 22, 23, 24, 25, 26, 27, 28, 29, 30, 31, 32, 33, 34, 35, 36] (lawW cI cJ cS xa sd sq im (Bw 0) (Bw 1) (rgB Bw) (spB Bw) (Bw 14) (Bw 39) nx kf wf sf Rr Pr Pd tn tp n2 h2 rg2 sp2 Tp Kq Wq sf2 n1 h1 rg1 sp1 dr1 kn1 nx1 kf1 wf1 sf1 R1 P1 D1 sh true la zz (zL 24 (Rw sh)) i1 (Th i1) (Ln i1) (Sz i1) (Rw i1) i2 (Th i2) (Ln i2) (Sz i2) (Rw i2) i3 (Th i3) (Ln i3) (Sz i3) (Rw i3) im tn at0 st0 nu rm rh Bw Tp (laF Th Ln) Sz It Rs Rd Hl) (by decide) rfl (fun H locs hP hD hS => ?_)
        refine lv_aload_n hx hb dL_law_1163 rfl (lv_at hl 2 rfl) ?_
        refine la_arg hx hb hX hbl hbA hS hl hL e1 (by omega) dL_law_1164 dL_law_1165 dL_law_1166 (by decide) dL_law_1167 dL_law_1168 ?_
        refine la_arg hx hb hX hbl hbA hS hl hL e2 (by omega) dL_law_1169 dL_law_1170 dL_law_1171 (by decide) dL_law_1172 dL_law_1173 ?_
        refine la_arg hx hb hX hbl hbA hS hl hL e3 (by omega) dL_law_1174 dL_law_1175 dL_law_1176 (by decide) dL_law_1177 dL_law_1178 ?_
        refine lq_calli (va_runV (As := [.int (nI sh), .int (nI la), .int (nI zz)]) (rest := [.int (nI zz)]) ⟨hx, hb, hml, hown, hts⟩ (c_X5_sheet_g l dC dI cI cJ cS _ (xa 32) (xa 33) (xa 34) (xa 35) (xa 36) (xa 37) (xa 38) (xa 39) (xa 40) im tn at0 st0 nu rm rh Th Ln Sz It sh la zz (hs4) (hla) (hz24)) (cwV 3 hts gL_law_X5_sheet rfl rfl rfl (by decide +kernel) ⟨Nat.le_of_ble_eq_true rfl, Nat.le_of_ble_eq_true rfl⟩) (rw_preV hKK (hP.sub [32, 35, 36, 37] rfl) (hD.sub [32, 35, 36, 37] (by decide) rfl) rfl rfl) rfl rfl hl.1 rfl (lv_room (Nat.le_of_ble_eq_true rfl)) dL_law_1179 ⟨Nat.le_of_ble_eq_true rfl, Nat.le_of_ble_eq_true rfl⟩) hP hD hS hA [32, 35, 36, 37] [0, 1, 2, 3, 4, 5, 6, 7, 8, 9, 10, 11, 12, 13, 14, 15, 16, 17, 18, 19, 20, 21, 22, 23, 24, 25, 26, 27, 28, 29, 30, 31, 33, 34, 38, 39, 40] rfl rfl (by decide) (by decide) [0, 1, 2, 3, 4, 5, 6, 7, 8, 9, 10, 11, 12, 13, 14, 15, 16, 17, 18, 19, 20, 21, 22, 23, 24, 25, 26, 27, 28, 29, 30, 31, 37, 32, 33, 38, 39, 40, 34, 35, 36] (lawW cI cJ cS xa sd sq im (Bw 0) (Bw 1) (rgB Bw) (spB Bw) (Bw 14) (Bw 39) nx kf wf sf Rr Pr Pd tn tp n2 h2 rg2 sp2 Tp Kq Wq sf2 n1 h1 rg1 sp1 dr1 kn1 nx1 kf1 wf1 sf1 R1 P1 D1 sh true la zz (zL 24 (Rw sh)) i1 (Th i1) (Ln i1) (Sz i1) (Rw i1) i2 (Th i2) (Ln i2) (Sz i2) (Rw i2) i3 (Th i3) (Ln i3) (Sz i3) (Rw i3) im tn at0 st0 nu rm rh Bw Tp (laF (uB Th sh true) (uN Ln sh la)) (uN Sz sh zz) (flI It (24 * sh) (fun _ => 0) 24) Rs Rd Hl) (by decide) rfl (fun H locs hP hD hS => ?_)
        refine lv_icmp_eq (tgt := 1356) hx hb dL_law_1182 (by decide) (fun _ => ?_) (fun c9 => absurd (rfl) c9)
        exact hk _ _ _ (LI_mk (Rw := uR Rw sh (zL 24 (Rw sh))) (hpm) (⟨uB_eq.symm, uN_eq.symm, uN_eq.symm, uR_eq.symm⟩) (⟨(uB_ne m1).symm, (uN_ne m1).symm, (uN_ne m1).symm, (uR_ne m1).symm⟩) (⟨(uB_ne m2).symm, (uN_ne m2).symm, (uN_ne m2).symm, (uR_ne m2).symm⟩) (⟨(uB_ne m3).symm, (uN_ne m3).symm, (uN_ne m3).symm, (uR_ne m3).symm⟩) (nRl.rf q) (hkr) (ht) (shR.new (shR.row hsr hs4 (fun k hk => by rw [flI_in (by omega)]; unfold zL; rw [if_pos hk]) (fun j hj => flI_out (by omega))) hla hz24) hP hD hS hl)
    · skip
      refine rr_callR (va_runV (As := [.int (nI sh), .int (nI la), .int v3]) (rest := []) ⟨hx, hb, hml, hown, hts⟩ (c_X4_sheet_b2 l dC dI cI cJ cS (xa 0) (xa 9) (xa 15) (xa 23) im (xa 1) (xa 2) (xa 3) (xa 4) (xa 5) (xa 6) (xa 7) (xa 8) (Bw 0) (Bw 1) (rgB Bw) (spB Bw) (Bw 14) (Bw 39) nx kf wf sf (kdB Bw) (wdB Bw) Sh Rr Pr Pd sh la v3 (hs4) (hla) (hb2)) (cwV 3 hts gL_law_X4_sheet rfl rfl rfl (by decide +kernel) ⟨Nat.le_of_ble_eq_true rfl, Nat.le_of_ble_eq_true rfl⟩) (rr_preV hKK (hP.sub [0, 1, 2, 3, 4, 5, 6, 7, 8] rfl) rfl rfl) rfl rfl hl.1 rfl (lv_room (Nat.le_of_ble_eq_true rfl)) dL_law_1160 ⟨Nat.le_of_ble_eq_true rfl, Nat.le_of_ble_eq_true rfl⟩) ?_
      refine lv_aload_n hx hb dL_law_1163 rfl (lv_at hl 2 rfl) ?_
      refine la_arg hx hb hX hbl hbA hS hl hL e1 (by omega) dL_law_1164 dL_law_1165 dL_law_1166 (by decide) dL_law_1167 dL_law_1168 ?_
      refine la_arg hx hb hX hbl hbA hS hl hL e2 (by omega) dL_law_1169 dL_law_1170 dL_law_1171 (by decide) dL_law_1172 dL_law_1173 ?_
      refine la_arg hx hb hX hbl hbA hS hl hL e3 (by omega) dL_law_1174 dL_law_1175 dL_law_1176 (by decide) dL_law_1177 dL_law_1178 ?_
      refine rr_callR (va_runV (As := [.int (nI sh), .int (nI la), .int v3]) (rest := [.int (-1)]) ⟨hx, hb, hml, hown, hts⟩ (c_X5_sheet_b2 l dC dI cI cJ cS (xa 32) (xa 33) (xa 34) (xa 35) (xa 36) (xa 37) (xa 38) (xa 39) (xa 40) im tn at0 st0 nu rm rh Bw sh la v3 (hs4) (hla) (hb2)) (cwV 3 hts gL_law_X5_sheet rfl rfl rfl (by decide +kernel) ⟨Nat.le_of_ble_eq_true rfl, Nat.le_of_ble_eq_true rfl⟩) (rr_preV hKK (hP.sub [32, 33] rfl) rfl rfl) rfl rfl hl.1 rfl (lv_room (Nat.le_of_ble_eq_true rfl)) dL_law_1179 ⟨Nat.le_of_ble_eq_true rfl, Nat.le_of_ble_eq_true rfl⟩) ?_
      refine lv_icmp_eq (tgt := 1356) hx hb dL_law_1182 (by decide) (fun _ => ?_) (fun c9 => absurd (rfl) c9)
      exact hk _ _ _ (LI_mk0 (nRl.rf q) (hkr) (ht) (hsr) hP hD hS hl)
set_option maxHeartbeats 4000000 in
set_option maxRecDepth 100000 in
theorem lc_drop (C0 : lwC p s m meth c b L xs dC dI cI cJ cS A aK aV) (hi : i + 6 ≤ L) (hk : ∀ (H : Heap) (locs : List Loc) (ls : Array Slot), LI dC dI cI cJ cS A s.heap xa sd sq b i H locs ls → W p l e room_1 s m #[Value.ref b] below meth c H locs 100 2000 (lw_Z below #[Value.ref b] s) (F0 m 1356 ls [])) (hI : LI dC dI cI cJ cS A s.heap xa sd sq b i H locs ls) : W p l e room_1 s m #[Value.ref b] below meth c H locs 100 2000 (lw_Z below #[Value.ref b] s) (F0 m 1187 ls []) := by
  obtain ⟨hx, hb, hr, hml, hown, hts, hX, hbl, hlocks, hKK, hZ, hA, hbA, hL⟩ := C0
  obtain ⟨im, _, _, _, _, _, _, nx, kf, wf, sf, Rr, Pr, Pd, tn, tp, n2, h2, rg2, sp2, Tp, Kq, Wq, sf2, n1, h1, rg1, sp1, dr1, kn1, nx1, kf1, wf1, sf1, R1, P1, D1, Th, Ln, Sz, Rw, at0, st0, nu, rm, rh, Bw, It, Rs, Rd, Hl, ⟨rfl, rfl, rfl, rfl, rfl, rfl, q⟩, hkr, ht, hsr, hP, hD, hS, hl⟩ := hI
  have hm : mOk Bw := q.1
  have ok : wOk (Bw 0) (kdB Bw) (wdB Bw) := hm.1
  have fk : isA (Bw 0) kf (kdB Bw) := q.2.1
  have fw : isA (Bw 0) wf (wdB Bw) := q.2.2.1
  obtain ⟨Sh, fs, hSo⟩ := q.2.2.2.1
  have hre : reR (Bw 0) Rr Bw := q.2.2.2.2.1
  have hnx : nx < 8 := q.2.2.2.2.2.1
  have hSs : ∀ j, j < Bw 0 → Sh j < spB Bw := fun j hj => (hSo j hj).1
  have hsp : spB Bw ≤ 47045881 := (spB_b hm).2
  have hsp0 : 0 < spB Bw := (spB_b hm).1
  have hrg : rgB Bw < 2 ^ 31 := by have := (rgB_b hm).2; omega
  have hR : rOk (Bw 0) (wdB Bw) Rr := q.ro
  have hkn : Bw 39 ≤ 8 := hm.2.2.2.1
  have hh : Bw 1 ≤ Bw 0 := hm.2.1
  have h6 : Bw 0 ≤ 6 := hm.n
  obtain ⟨hz, hl3, hit⟩ := id hsr
  obtain ⟨v1, e1⟩ : ∃ v, xs (i + 1) = v := ⟨_, rfl⟩
  refine lv_aload_n hx hb dL_law_1187 rfl (lv_at hl 1 rfl) ?_
  refine la_arg hx hb hX hbl hbA hS hl hL e1 (by omega) dL_law_1188 dL_law_1189 dL_law_1190 (by decide) dL_law_1191 dL_law_1192 ?_
  by_cases hbad : inb v1 4 = false
  · skip
    refine rr_callR (va_runV (As := [.int v1]) (rest := []) ⟨hx, hb, hml, hown, hts⟩ (c_X4_drop_b l dC dI cI cJ cS (xa 0) (xa 9) (xa 15) (xa 23) im (xa 1) (xa 2) (xa 3) (xa 4) (xa 5) (xa 6) (xa 7) (xa 8) (Bw 0) (Bw 1) (rgB Bw) (spB Bw) (Bw 14) (Bw 39) nx kf wf sf (kdB Bw) (wdB Bw) Sh Rr Pr Pd v1 (hbad)) (cwV 1 hts gL_law_X4_drop rfl rfl rfl (by decide +kernel) ⟨Nat.le_of_ble_eq_true rfl, Nat.le_of_ble_eq_true rfl⟩) (rr_preV hKK (hP.sub [0, 1, 2, 3, 4, 5, 6, 7, 8] rfl) rfl rfl) rfl rfl hl.1 rfl (lv_room (Nat.le_of_ble_eq_true rfl)) dL_law_1193 ⟨Nat.le_of_ble_eq_true rfl, Nat.le_of_ble_eq_true rfl⟩) ?_
    refine lv_aload_n hx hb dL_law_1196 rfl (lv_at hl 2 rfl) ?_
    refine la_arg hx hb hX hbl hbA hS hl hL e1 (by omega) dL_law_1197 dL_law_1198 dL_law_1199 (by decide) dL_law_1200 dL_law_1201 ?_
    refine rr_callR (va_runV (As := [.int v1]) (rest := [.int (-1)]) ⟨hx, hb, hml, hown, hts⟩ (c_X5_drop_b l dC dI cI cJ cS (xa 32) (xa 33) (xa 34) (xa 35) (xa 36) (xa 37) (xa 38) (xa 39) (xa 40) im tn at0 st0 nu rm rh Bw v1 (hbad)) (cwV 1 hts gL_law_X5_drop rfl rfl rfl (by decide +kernel) ⟨Nat.le_of_ble_eq_true rfl, Nat.le_of_ble_eq_true rfl⟩) (rr_preV hKK (hP.sub [32, 33] rfl) rfl rfl) rfl rfl hl.1 rfl (lv_room (Nat.le_of_ble_eq_true rfl)) dL_law_1202 ⟨Nat.le_of_ble_eq_true rfl, Nat.le_of_ble_eq_true rfl⟩) ?_
    refine lv_icmp_eq (tgt := 1356) hx hb dL_law_1205 (by decide) (fun _ => ?_) (fun c9 => absurd (rfl) c9)
    exact hk _ _ _ (LI_mk0 (nRl.rf q) (hkr) (ht) (hsr) hP hD hS hl)
  · rw [Bool.not_eq_false] at hbad
    obtain ⟨sh, hs4, rfl⟩ := inb_of (by decide) hbad
    obtain ⟨i1, i2, i3, hpm, m1, m2, m3⟩ := pm1 hs4
    replace hP := pm_P hpm hP
    replace hD := pm_D hpm hD
    by_cases hth : Th sh = true
    · skip
      refine lq_calli (va_runV (As := [.int (nI sh)]) (rest := []) ⟨hx, hb, hml, hown, hts⟩ (c_X4_drop_g l dC dI cI cJ cS _ (xa 0) (xa 9) (xa 1) (xa 15) (xa 23) im sd sq sh (Th sh) (Ln sh) (Sz sh) (Rw sh) (hs4) (hth)) (cwV 1 hts gL_law_X4_drop rfl rfl rfl (by decide +kernel) ⟨Nat.le_of_ble_eq_true rfl, Nat.le_of_ble_eq_true rfl⟩) (rw_preV hKK (hP.sub [0, 23, 24, 25] rfl) (hD.sub [0, 23, 24, 25] (by decide) rfl) rfl rfl) rfl rfl hl.1 rfl (lv_room (Nat.le_of_ble_eq_true rfl)) dL_law_1193 ⟨Nat.le_of_ble_eq_true rfl, Nat.le_of_ble_eq_true rfl⟩) hP hD hS hA [0, 23, 24, 25] [1, 2, 3, 4, 5, 6, 7, 8, 9, 10, 11, 12, 13, 14, 15, 16, 17, 18, 19, 20, 21, 22, 26, 27, 28, 29, 30, 31, 32, 33, 34, 35, 36, 37, 38, 39, 40] rfl rfl (by decide) (by decide) [37, 0, 1, 2, 3, 4, 5, 6, 7, 8, 9, 10, 11, 12, 13, 14, 15, 16, 17, 18, 19, 20, 21, 38, 39, 40, 22, 23, 24, 25, 26, 27, 28, 29, 30, 31, 32, 33, 34, 35, 36] (lawW cI cJ cS xa sd sq im (Bw 0) (Bw 1) (rgB Bw) (spB Bw) (Bw 14) (Bw 39) nx kf wf sf Rr Pr Pd tn tp n2 h2 rg2 sp2 Tp Kq Wq sf2 n1 h1 rg1 sp1 dr1 kn1 nx1 kf1 wf1 sf1 R1 P1 D1 sh false (Ln sh) (Sz sh) (Rw sh) i1 (Th i1) (Ln i1) (Sz i1) (Rw i1) i2 (Th i2) (Ln i2) (Sz i2) (Rw i2) i3 (Th i3) (Ln i3) (Sz i3) (Rw i3) im tn at0 st0 nu rm rh Bw Tp (laF Th Ln) Sz It Rs Rd Hl) (by decide) rfl (fun H locs hP hD hS => ?_)
      refine lv_aload_n hx hb dL_law_1196 rfl (lv_at hl 2 rfl) ?_
      refine la_arg hx hb hX hbl hbA hS hl hL e1 (by omega) dL_law_1197 dL_law_1198 dL_law_1199 (by decide) dL_law_1200 dL_law_1201 ?_
      refine lq_calli (va_runV (As := [.int (nI sh)]) (rest := [.int (nI (Sz sh))]) ⟨hx, hb, hml, hown, hts⟩ (c_X5_drop_g l dC dI cI cJ cS _ (xa 32) (xa 33) (xa 34) (xa 35) (xa 36) (xa 37) (xa 38) (xa 39) (xa 40) im tn at0 st0 nu rm rh Th Ln Sz sh (hs4) (hth) (hl3 sh hs4)) (cwV 1 hts gL_law_X5_drop rfl rfl rfl (by decide +kernel) ⟨Nat.le_of_ble_eq_true rfl, Nat.le_of_ble_eq_true rfl⟩) (rw_preV hKK (hP.sub [32, 35, 36] rfl) (hD.sub [32, 35, 36] (by decide) rfl) rfl rfl) rfl rfl hl.1 rfl (lv_room (Nat.le_of_ble_eq_true rfl)) dL_law_1202 ⟨Nat.le_of_ble_eq_true rfl, Nat.le_of_ble_eq_true rfl⟩) hP hD hS hA [32, 35, 36] [0, 1, 2, 3, 4, 5, 6, 7, 8, 9, 10, 11, 12, 13, 14, 15, 16, 17, 18, 19, 20, 21, 22, 23, 24, 25, 26, 27, 28, 29, 30, 31, 33, 34, 37, 38, 39, 40] rfl rfl (by decide) (by decide) [0, 1, 2, 3, 4, 5, 6, 7, 8, 9, 10, 11, 12, 13, 14, 15, 16, 17, 18, 19, 20, 21, 22, 23, 24, 25, 26, 27, 28, 29, 30, 31, 38, 32, 33, 39, 40, 34, 35, 36, 37] (lawW cI cJ cS xa sd sq im (Bw 0) (Bw 1) (rgB Bw) (spB Bw) (Bw 14) (Bw 39) nx kf wf sf Rr Pr Pd tn tp n2 h2 rg2 sp2 Tp Kq Wq sf2 n1 h1 rg1 sp1 dr1 kn1 nx1 kf1 wf1 sf1 R1 P1 D1 sh false (Ln sh) (Sz sh) (Rw sh) i1 (Th i1) (Ln i1) (Sz i1) (Rw i1) i2 (Th i2) (Ln i2) (Sz i2) (Rw i2) i3 (Th i3) (Ln i3) (Sz i3) (Rw i3) im tn at0 st0 nu rm rh Bw Tp (laF (uB Th sh false) Ln) Sz It Rs Rd Hl) (by decide) rfl (fun H locs hP hD hS => ?_)
      refine lv_icmp_eq (tgt := 1356) hx hb dL_law_1205 (by decide) (fun _ => ?_) (fun c9 => absurd (rfl) c9)
      exact hk _ _ _ (LI_mk (Rw := Rw) (hpm) (⟨uB_eq.symm, rfl, rfl, rfl⟩) (⟨(uB_ne m1).symm, rfl, rfl, rfl⟩) (⟨(uB_ne m2).symm, rfl, rfl, rfl⟩) (⟨(uB_ne m3).symm, rfl, rfl, rfl⟩) (nRl.rf q) (hkr) (ht) (hsr) hP hD hS hl)
    · have hth : Th sh = false := Bool.eq_false_iff.mpr hth
      refine rr_callR (va_runV (As := [.int (nI sh)]) (rest := []) ⟨hx, hb, hml, hown, hts⟩ (c_X4_drop_n l dC dI cI cJ cS (xa 0) (xa 9) (xa 1) (xa 15) (xa 23) im sd sq sh (Th sh) (Ln sh) (Sz sh) (Rw sh) (hs4) (hth)) (cwV 1 hts gL_law_X4_drop rfl rfl rfl (by decide +kernel) ⟨Nat.le_of_ble_eq_true rfl, Nat.le_of_ble_eq_true rfl⟩) (rr_preV hKK (hP.sub [0, 23, 24, 25] rfl) rfl rfl) rfl rfl hl.1 rfl (lv_room (Nat.le_of_ble_eq_true rfl)) dL_law_1193 ⟨Nat.le_of_ble_eq_true rfl, Nat.le_of_ble_eq_true rfl⟩) ?_
      refine lv_aload_n hx hb dL_law_1196 rfl (lv_at hl 2 rfl) ?_
      refine la_arg hx hb hX hbl hbA hS hl hL e1 (by omega) dL_law_1197 dL_law_1198 dL_law_1199 (by decide) dL_law_1200 dL_law_1201 ?_
      refine rr_callR (va_runV (As := [.int (nI sh)]) (rest := [.int (-11)]) ⟨hx, hb, hml, hown, hts⟩ (c_X5_drop_n l dC dI cI cJ cS (xa 32) (xa 33) (xa 34) (xa 35) (xa 36) (xa 37) (xa 38) (xa 39) (xa 40) im tn at0 st0 nu rm rh Th Ln Sz sh (hs4) (hth)) (cwV 1 hts gL_law_X5_drop rfl rfl rfl (by decide +kernel) ⟨Nat.le_of_ble_eq_true rfl, Nat.le_of_ble_eq_true rfl⟩) (rr_preV hKK (hP.sub [32, 35, 36] rfl) rfl rfl) rfl rfl hl.1 rfl (lv_room (Nat.le_of_ble_eq_true rfl)) dL_law_1202 ⟨Nat.le_of_ble_eq_true rfl, Nat.le_of_ble_eq_true rfl⟩) ?_
      refine lv_icmp_eq (tgt := 1356) hx hb dL_law_1205 (by decide) (fun _ => ?_) (fun c9 => absurd (rfl) c9)
      exact hk _ _ _ (LI_mk (Rw := Rw) (hpm) (⟨rfl, rfl, rfl, rfl⟩) (⟨rfl, rfl, rfl, rfl⟩) (⟨rfl, rfl, rfl, rfl⟩) (⟨rfl, rfl, rfl, rfl⟩) (nRl.rf q) (hkr) (ht) (hsr) hP hD hS hl)
set_option maxHeartbeats 4000000 in
set_option maxRecDepth 100000 in
theorem lc_item (C0 : lwC p s m meth c b L xs dC dI cI cJ cS A aK aV) (hi : i + 6 ≤ L) (hk : ∀ (H : Heap) (locs : List Loc) (ls : Array Slot), LI dC dI cI cJ cS A s.heap xa sd sq b i H locs ls → W p l e room_1 s m #[Value.ref b] below meth c H locs 100 2000 (lw_Z below #[Value.ref b] s) (F0 m 1356 ls [])) (hI : LI dC dI cI cJ cS A s.heap xa sd sq b i H locs ls) : W p l e room_1 s m #[Value.ref b] below meth c H locs 100 2000 (lw_Z below #[Value.ref b] s) (F0 m 1210 ls []) := by
  obtain ⟨hx, hb, hr, hml, hown, hts, hX, hbl, hlocks, hKK, hZ, hA, hbA, hL⟩ := C0
  obtain ⟨im, _, _, _, _, _, _, nx, kf, wf, sf, Rr, Pr, Pd, tn, tp, n2, h2, rg2, sp2, Tp, Kq, Wq, sf2, n1, h1, rg1, sp1, dr1, kn1, nx1, kf1, wf1, sf1, R1, P1, D1, Th, Ln, Sz, Rw, at0, st0, nu, rm, rh, Bw, It, Rs, Rd, Hl, ⟨rfl, rfl, rfl, rfl, rfl, rfl, q⟩, hkr, ht, hsr, hP, hD, hS, hl⟩ := hI
  have hm : mOk Bw := q.1
  have ok : wOk (Bw 0) (kdB Bw) (wdB Bw) := hm.1
  have fk : isA (Bw 0) kf (kdB Bw) := q.2.1
  have fw : isA (Bw 0) wf (wdB Bw) := q.2.2.1
  obtain ⟨Sh, fs, hSo⟩ := q.2.2.2.1
  have hre : reR (Bw 0) Rr Bw := q.2.2.2.2.1
  have hnx : nx < 8 := q.2.2.2.2.2.1
  have hSs : ∀ j, j < Bw 0 → Sh j < spB Bw := fun j hj => (hSo j hj).1
  have hsp : spB Bw ≤ 47045881 := (spB_b hm).2
  have hsp0 : 0 < spB Bw := (spB_b hm).1
  have hrg : rgB Bw < 2 ^ 31 := by have := (rgB_b hm).2; omega
  have hR : rOk (Bw 0) (wdB Bw) Rr := q.ro
  have hkn : Bw 39 ≤ 8 := hm.2.2.2.1
  have hh : Bw 1 ≤ Bw 0 := hm.2.1
  have h6 : Bw 0 ≤ 6 := hm.n
  obtain ⟨hz, hl3, hit⟩ := id hsr
  obtain ⟨v1, e1⟩ : ∃ v, xs (i + 1) = v := ⟨_, rfl⟩
  obtain ⟨v2, e2⟩ : ∃ v, xs (i + 2) = v := ⟨_, rfl⟩
  obtain ⟨v3, e3⟩ : ∃ v, xs (i + 3) = v := ⟨_, rfl⟩
  obtain ⟨v4, e4⟩ : ∃ v, xs (i + 4) = v := ⟨_, rfl⟩
  obtain ⟨v5, e5⟩ : ∃ v, xs (i + 5) = v := ⟨_, rfl⟩
  obtain ⟨lv, e7⟩ : ∃ z : Int64, (v4.toInt64 <<< ((nI 32).toInt64 &&& 63)) ||| (v5.toInt64 &&& 4294967295) = z := ⟨_, rfl⟩
  refine lv_aload_n hx hb dL_law_1210 rfl (lv_at hl 1 rfl) ?_
  refine la_arg hx hb hX hbl hbA hS hl hL e1 (by omega) dL_law_1211 dL_law_1212 dL_law_1213 (by decide) dL_law_1214 dL_law_1215 ?_
  refine la_arg hx hb hX hbl hbA hS hl hL e2 (by omega) dL_law_1216 dL_law_1217 dL_law_1218 (by decide) dL_law_1219 dL_law_1220 ?_
  refine la_arg hx hb hX hbl hbA hS hl hL e3 (by omega) dL_law_1221 dL_law_1222 dL_law_1223 (by decide) dL_law_1224 dL_law_1225 ?_
  refine la_arg hx hb hX hbl hbA hS hl hL e4 (by omega) dL_law_1226 dL_law_1227 dL_law_1228 (by decide) dL_law_1229 dL_law_1230 ?_
  refine lv_i2l hx hb dL_law_1231 rfl ?_
  refine lv_bipush (v := nI 32) hx hb dL_law_1232 (by decide) ?_
  refine lv_lshl hx hb dL_law_1234 rfl ?_
  refine la_arg hx hb hX hbl hbA hS hl hL e5 (by omega) dL_law_1235 dL_law_1236 dL_law_1237 (by decide) dL_law_1238 dL_law_1239 ?_
  refine lv_i2l hx hb dL_law_1240 rfl ?_
  refine lv_ldc2 (v := 4294967295) hx hb hown (hts (.constantLong RL 147 (4294967295)) (List.mem_of_getElem? (i := 6) (by decide +kernel))) dL_law_1241 ?_
  refine lv_land hx hb dL_law_1244 ?_
  refine lv_lor hx hb dL_law_1245 ?_
  refine rr_topl (y := lv) e7 ?_
  by_cases hbad : (inb v1 4 && inb v2 4) = false
  · skip
    refine rr_callR (va_runV (As := [.int v1, .int v2, .int v3, .long lv]) (rest := []) ⟨hx, hb, hml, hown, hts⟩ (c_X4_item_b l dC dI cI cJ cS (xa 0) (xa 9) (xa 15) (xa 23) im (xa 1) (xa 2) (xa 3) (xa 4) (xa 5) (xa 6) (xa 7) (xa 8) (Bw 0) (Bw 1) (rgB Bw) (spB Bw) (Bw 14) (Bw 39) nx kf wf sf (kdB Bw) (wdB Bw) Sh Rr Pr Pd v1 v2 v3 lv (hbad)) (cwV 4 hts gL_law_X4_item rfl rfl rfl (by decide +kernel) ⟨Nat.le_of_ble_eq_true rfl, Nat.le_of_ble_eq_true rfl⟩) (rr_preV hKK (hP.sub [0, 1, 2, 3, 4, 5, 6, 7, 8] rfl) rfl rfl) rfl rfl hl.1 rfl (lv_room (Nat.le_of_ble_eq_true rfl)) dL_law_1246 ⟨Nat.le_of_ble_eq_true rfl, Nat.le_of_ble_eq_true rfl⟩) ?_
    refine lv_aload_n hx hb dL_law_1249 rfl (lv_at hl 2 rfl) ?_
    refine la_arg hx hb hX hbl hbA hS hl hL e1 (by omega) dL_law_1250 dL_law_1251 dL_law_1252 (by decide) dL_law_1253 dL_law_1254 ?_
    refine la_arg hx hb hX hbl hbA hS hl hL e2 (by omega) dL_law_1255 dL_law_1256 dL_law_1257 (by decide) dL_law_1258 dL_law_1259 ?_
    refine la_arg hx hb hX hbl hbA hS hl hL e3 (by omega) dL_law_1260 dL_law_1261 dL_law_1262 (by decide) dL_law_1263 dL_law_1264 ?_
    refine la_arg hx hb hX hbl hbA hS hl hL e4 (by omega) dL_law_1265 dL_law_1266 dL_law_1267 (by decide) dL_law_1268 dL_law_1269 ?_
    refine lv_i2l hx hb dL_law_1270 rfl ?_
    refine lv_bipush (v := nI 32) hx hb dL_law_1271 (by decide) ?_
    refine lv_lshl hx hb dL_law_1273 rfl ?_
    refine la_arg hx hb hX hbl hbA hS hl hL e5 (by omega) dL_law_1274 dL_law_1275 dL_law_1276 (by decide) dL_law_1277 dL_law_1278 ?_
    refine lv_i2l hx hb dL_law_1279 rfl ?_
    refine lv_ldc2 (v := 4294967295) hx hb hown (hts (.constantLong RL 147 (4294967295)) (List.mem_of_getElem? (i := 6) (by decide +kernel))) dL_law_1280 ?_
    refine lv_land hx hb dL_law_1283 ?_
    refine lv_lor hx hb dL_law_1284 ?_
    refine rr_topl (y := lv) e7 ?_
    refine rr_callR (va_runV (As := [.int v1, .int v2, .int v3, .long lv]) (rest := [.int (-1)]) ⟨hx, hb, hml, hown, hts⟩ (c_X5_item_b l dC dI cI cJ cS (xa 32) (xa 33) (xa 34) (xa 35) (xa 36) (xa 37) (xa 38) (xa 39) (xa 40) im tn at0 st0 nu rm rh Bw v1 v2 v3 lv (hbad)) (cwV 4 hts gL_law_X5_item rfl rfl rfl (by decide +kernel) ⟨Nat.le_of_ble_eq_true rfl, Nat.le_of_ble_eq_true rfl⟩) (rr_preV hKK (hP.sub [32, 33] rfl) rfl rfl) rfl rfl hl.1 rfl (lv_room (Nat.le_of_ble_eq_true rfl)) dL_law_1285 ⟨Nat.le_of_ble_eq_true rfl, Nat.le_of_ble_eq_true rfl⟩) ?_
    refine lv_icmp_eq (tgt := 1356) hx hb dL_law_1288 (by decide) (fun _ => ?_) (fun c9 => absurd (rfl) c9)
    exact hk _ _ _ (LI_mk0 (nRl.rf q) (hkr) (ht) (hsr) hP hD hS hl)
  · simp only [Bool.not_eq_false, Bool.and_eq_true] at hbad
    obtain ⟨sh, hs4, rfl⟩ := inb_of (by decide) hbad.1
    have hwl := hbad.2
    obtain ⟨i1, i2, i3, hpm, m1, m2, m3⟩ := pm1 hs4
    replace hP := pm_P hpm hP
    replace hD := pm_D hpm hD
    by_cases href : refI (Th sh) (Ln sh) (Sz sh) v2 v3 (nI 1) = nI 0
    · obtain ⟨a, rfl, ha3⟩ := ref_at href (hz sh hs4) (by omega)
      have has : a + 1 ≤ 24 := Nat.le_trans ha3 (hz sh hs4)
      refine lq_calli (va_runV (As := [.int (nI sh), .int v2, .int (nI a), .long lv]) (rest := []) ⟨hx, hb, hml, hown, hts⟩ (c_X4_item_g l dC dI cI cJ cS _ (xa 0) (xa 9) (xa 1) (xa 15) (xa 23) im sd sq sh (Th sh) (Ln sh) (Sz sh) (Rw sh) v2 a lv (hs4) (hz sh hs4) (hwl) (href) (has)) (cwV 4 hts gL_law_X4_item rfl rfl rfl (by decide +kernel) ⟨Nat.le_of_ble_eq_true rfl, Nat.le_of_ble_eq_true rfl⟩) (rw_preV hKK (hP.sub [0, 23, 24, 25] rfl) (hD.sub [0, 23, 24, 25] (by decide) rfl) rfl rfl) rfl rfl hl.1 rfl (lv_room (Nat.le_of_ble_eq_true rfl)) dL_law_1246 ⟨Nat.le_of_ble_eq_true rfl, Nat.le_of_ble_eq_true rfl⟩) hP hD hS hA [0, 23, 24, 25] [1, 2, 3, 4, 5, 6, 7, 8, 9, 10, 11, 12, 13, 14, 15, 16, 17, 18, 19, 20, 21, 22, 26, 27, 28, 29, 30, 31, 32, 33, 34, 35, 36, 37, 38, 39, 40] rfl rfl (by decide) (by decide) [37, 0, 1, 2, 3, 4, 5, 6, 7, 8, 9, 10, 11, 12, 13, 14, 15, 16, 17, 18, 19, 20, 21, 38, 39, 40, 22, 23, 24, 25, 26, 27, 28, 29, 30, 31, 32, 33, 34, 35, 36] (lawW cI cJ cS xa sd sq im (Bw 0) (Bw 1) (rgB Bw) (spB Bw) (Bw 14) (Bw 39) nx kf wf sf Rr Pr Pd tn tp n2 h2 rg2 sp2 Tp Kq Wq sf2 n1 h1 rg1 sp1 dr1 kn1 nx1 kf1 wf1 sf1 R1 P1 D1 sh (Th sh) (Ln sh) (Sz sh) (vp_updL (Rw sh) a (cutL v2 lv)) i1 (Th i1) (Ln i1) (Sz i1) (Rw i1) i2 (Th i2) (Ln i2) (Sz i2) (Rw i2) i3 (Th i3) (Ln i3) (Sz i3) (Rw i3) im tn at0 st0 nu rm rh Bw Tp (laF Th Ln) Sz It Rs Rd Hl) (by decide) rfl (fun H locs hP hD hS => ?_)
      refine lv_aload_n hx hb dL_law_1249 rfl (lv_at hl 2 rfl) ?_
      refine la_arg hx hb hX hbl hbA hS hl hL e1 (by omega) dL_law_1250 dL_law_1251 dL_law_1252 (by decide) dL_law_1253 dL_law_1254 ?_
      refine la_arg hx hb hX hbl hbA hS hl hL e2 (by omega) dL_law_1255 dL_law_1256 dL_law_1257 (by decide) dL_law_1258 dL_law_1259 ?_
      refine la_arg hx hb hX hbl hbA hS hl hL e3 (by omega) dL_law_1260 dL_law_1261 dL_law_1262 (by decide) dL_law_1263 dL_law_1264 ?_
      refine la_arg hx hb hX hbl hbA hS hl hL e4 (by omega) dL_law_1265 dL_law_1266 dL_law_1267 (by decide) dL_law_1268 dL_law_1269 ?_
      refine lv_i2l hx hb dL_law_1270 rfl ?_
      refine lv_bipush (v := nI 32) hx hb dL_law_1271 (by decide) ?_
      refine lv_lshl hx hb dL_law_1273 rfl ?_
      refine la_arg hx hb hX hbl hbA hS hl hL e5 (by omega) dL_law_1274 dL_law_1275 dL_law_1276 (by decide) dL_law_1277 dL_law_1278 ?_
      refine lv_i2l hx hb dL_law_1279 rfl ?_
      refine lv_ldc2 (v := 4294967295) hx hb hown (hts (.constantLong RL 147 (4294967295)) (List.mem_of_getElem? (i := 6) (by decide +kernel))) dL_law_1280 ?_
      refine lv_land hx hb dL_law_1283 ?_
      refine lv_lor hx hb dL_law_1284 ?_
      refine rr_topl (y := lv) e7 ?_
      refine lq_calli (va_runV (As := [.int (nI sh), .int v2, .int (nI a), .long lv]) (rest := [.int (nI 1)]) ⟨hx, hb, hml, hown, hts⟩ (c_X5_item_g l dC dI cI cJ cS _ (xa 32) (xa 33) (xa 34) (xa 35) (xa 36) (xa 37) (xa 38) (xa 39) (xa 40) im tn at0 st0 nu rm rh Th Ln Sz It sh a v2 lv (hz) (hl3) (hs4) (hwl) (href) (has)) (cwV 4 hts gL_law_X5_item rfl rfl rfl (by decide +kernel) ⟨Nat.le_of_ble_eq_true rfl, Nat.le_of_ble_eq_true rfl⟩) (rw_preV hKK (hP.sub [32, 35, 36, 37] rfl) (hD.sub [32, 35, 36, 37] (by decide) rfl) rfl rfl) rfl rfl hl.1 rfl (lv_room (Nat.le_of_ble_eq_true rfl)) dL_law_1285 ⟨Nat.le_of_ble_eq_true rfl, Nat.le_of_ble_eq_true rfl⟩) hP hD hS hA [32, 35, 36, 37] [0, 1, 2, 3, 4, 5, 6, 7, 8, 9, 10, 11, 12, 13, 14, 15, 16, 17, 18, 19, 20, 21, 22, 23, 24, 25, 26, 27, 28, 29, 30, 31, 33, 34, 38, 39, 40] rfl rfl (by decide) (by decide) [0, 1, 2, 3, 4, 5, 6, 7, 8, 9, 10, 11, 12, 13, 14, 15, 16, 17, 18, 19, 20, 21, 22, 23, 24, 25, 26, 27, 28, 29, 30, 31, 37, 32, 33, 38, 39, 40, 34, 35, 36] (lawW cI cJ cS xa sd sq im (Bw 0) (Bw 1) (rgB Bw) (spB Bw) (Bw 14) (Bw 39) nx kf wf sf Rr Pr Pd tn tp n2 h2 rg2 sp2 Tp Kq Wq sf2 n1 h1 rg1 sp1 dr1 kn1 nx1 kf1 wf1 sf1 R1 P1 D1 sh (Th sh) (Ln sh) (Sz sh) (vp_updL (Rw sh) a (cutL v2 lv)) i1 (Th i1) (Ln i1) (Sz i1) (Rw i1) i2 (Th i2) (Ln i2) (Sz i2) (Rw i2) i3 (Th i3) (Ln i3) (Sz i3) (Rw i3) im tn at0 st0 nu rm rh Bw Tp (laF Th Ln) Sz (vp_updL It (24 * sh + a) (cutL v2 lv)) Rs Rd Hl) (by decide) rfl (fun H locs hP hD hS => ?_)
      refine lv_icmp_eq (tgt := 1356) hx hb dL_law_1288 (by decide) (fun _ => ?_) (fun c9 => absurd (rfl) c9)
      exact hk _ _ _ (LI_mk (Rw := uR Rw sh (vp_updL (Rw sh) a (cutL v2 lv))) (hpm) (⟨rfl, rfl, rfl, uR_eq.symm⟩) (⟨rfl, rfl, rfl, (uR_ne m1).symm⟩) (⟨rfl, rfl, rfl, (uR_ne m2).symm⟩) (⟨rfl, rfl, rfl, (uR_ne m3).symm⟩) (nRl.rf q) (hkr) (ht) (shR.row hsr hs4 (fun k hk => up_row (fun k hk => hit sh k hs4 hk) hk) (fun j hj => if_neg (by omega))) hP hD hS hl)
    · skip
      refine rr_callR (va_runV (As := [.int (nI sh), .int v2, .int v3, .long lv]) (rest := []) ⟨hx, hb, hml, hown, hts⟩ (c_X4_item_r l dC dI cI cJ cS (xa 0) (xa 9) (xa 1) (xa 15) (xa 23) im sd sq sh (Th sh) (Ln sh) (Sz sh) (Rw sh) v2 v3 lv (hs4) (hz sh hs4) (hwl) (href)) (cwV 4 hts gL_law_X4_item rfl rfl rfl (by decide +kernel) ⟨Nat.le_of_ble_eq_true rfl, Nat.le_of_ble_eq_true rfl⟩) (rr_preV hKK (hP.sub [0, 23, 24, 25] rfl) rfl rfl) rfl rfl hl.1 rfl (lv_room (Nat.le_of_ble_eq_true rfl)) dL_law_1246 ⟨Nat.le_of_ble_eq_true rfl, Nat.le_of_ble_eq_true rfl⟩) ?_
      refine lv_aload_n hx hb dL_law_1249 rfl (lv_at hl 2 rfl) ?_
      refine la_arg hx hb hX hbl hbA hS hl hL e1 (by omega) dL_law_1250 dL_law_1251 dL_law_1252 (by decide) dL_law_1253 dL_law_1254 ?_
      refine la_arg hx hb hX hbl hbA hS hl hL e2 (by omega) dL_law_1255 dL_law_1256 dL_law_1257 (by decide) dL_law_1258 dL_law_1259 ?_
      refine la_arg hx hb hX hbl hbA hS hl hL e3 (by omega) dL_law_1260 dL_law_1261 dL_law_1262 (by decide) dL_law_1263 dL_law_1264 ?_
      refine la_arg hx hb hX hbl hbA hS hl hL e4 (by omega) dL_law_1265 dL_law_1266 dL_law_1267 (by decide) dL_law_1268 dL_law_1269 ?_
      refine lv_i2l hx hb dL_law_1270 rfl ?_
      refine lv_bipush (v := nI 32) hx hb dL_law_1271 (by decide) ?_
      refine lv_lshl hx hb dL_law_1273 rfl ?_
      refine la_arg hx hb hX hbl hbA hS hl hL e5 (by omega) dL_law_1274 dL_law_1275 dL_law_1276 (by decide) dL_law_1277 dL_law_1278 ?_
      refine lv_i2l hx hb dL_law_1279 rfl ?_
      refine lv_ldc2 (v := 4294967295) hx hb hown (hts (.constantLong RL 147 (4294967295)) (List.mem_of_getElem? (i := 6) (by decide +kernel))) dL_law_1280 ?_
      refine lv_land hx hb dL_law_1283 ?_
      refine lv_lor hx hb dL_law_1284 ?_
      refine rr_topl (y := lv) e7 ?_
      refine rr_callR (va_runV (As := [.int (nI sh), .int v2, .int v3, .long lv]) (rest := [.int (refI (Th sh) (Ln sh) (Sz sh) v2 v3 (nI 1))]) ⟨hx, hb, hml, hown, hts⟩ (c_X5_item_r l dC dI cI cJ cS (xa 32) (xa 33) (xa 34) (xa 35) (xa 36) (xa 37) (xa 38) (xa 39) (xa 40) im tn at0 st0 nu rm rh Th Ln Sz It sh v2 v3 lv (hz) (hl3) (hs4) (hwl) (href)) (cwV 4 hts gL_law_X5_item rfl rfl rfl (by decide +kernel) ⟨Nat.le_of_ble_eq_true rfl, Nat.le_of_ble_eq_true rfl⟩) (rr_preV hKK (hP.sub [32, 35, 36, 37] rfl) rfl rfl) rfl rfl hl.1 rfl (lv_room (Nat.le_of_ble_eq_true rfl)) dL_law_1285 ⟨Nat.le_of_ble_eq_true rfl, Nat.le_of_ble_eq_true rfl⟩) ?_
      refine lv_icmp_eq (tgt := 1356) hx hb dL_law_1288 (by decide) (fun _ => ?_) (fun c9 => absurd (rfl) c9)
      exact hk _ _ _ (LI_mk (Rw := Rw) (hpm) (⟨rfl, rfl, rfl, rfl⟩) (⟨rfl, rfl, rfl, rfl⟩) (⟨rfl, rfl, rfl, rfl⟩) (⟨rfl, rfl, rfl, rfl⟩) (nRl.rf q) (hkr) (ht) (hsr) hP hD hS hl)
end LC
