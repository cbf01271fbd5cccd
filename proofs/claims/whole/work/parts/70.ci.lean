section LC
variable {p : Program} {l : Launch} {e : Env} {s : State} {m : MethodId} {below : List Frame} {meth : Method} {c : Code} {b L : Nat} {xs : Nat → Int32} {dC : Nat → ClassId} {dI : Nat → Nat → Nat} {cI cJ cS : ClassId} {A : Nat → Prop} {aK aV : Nat} {xa sd sq : Nat → Nat} {i : Nat} {H : Heap} {locs : List Loc} {ls : Array Slot}
set_option maxHeartbeats 4000000 in
set_option maxRecDepth 100000 in
theorem lc_copy (C0 : lwC p s m meth c b L xs dC dI cI cJ cS A aK aV) (hi : i + 6 ≤ L) (hk : ∀ (H : Heap) (locs : List Loc) (ls : Array Slot), LI dC dI cI cJ cS A s.heap xa sd sq b i H locs ls → W p l e room_1 s m #[Value.ref b] below meth c H locs 100 2000 (lw_Z below #[Value.ref b] s) (F0 m 1356 ls [])) (hI : LI dC dI cI cJ cS A s.heap xa sd sq b i H locs ls) : W p l e room_1 s m #[Value.ref b] below meth c H locs 100 2000 (lw_Z below #[Value.ref b] s) (F0 m 1293 ls []) := by
  obtain ⟨hx, hb, hr, hml, hown, hts, hX, hbl, hlocks, hKK, hZ, hA, hbA, hL⟩ := C0
  obtain ⟨im, _, _, _, _, _, _, nx, kf, wf, sf, Rr, Pr, Pd, tn, tp, n2, h2, rg2, sp2, Tp, Kq, Wq, sf2, n1, h1, rg1, sp1, dr1, kn1, nx1, kf1, wf1, sf1, R1, P1, D1, Th, Ln, Sz, Rw, at0, st0, nu, rm, rh, Bw, It, Rs, Rd, Hl, ⟨rfl, rfl, rfl, rfl, rfl, rfl, q⟩, hkr, ht, hsr, hP, hD, hS, hl⟩ := hI
  have hm : mOk Bw := q.1
  have ok : wOk (Bw 0) (kdB Bw) (wdB Bw) := hm.1
  have fk : isA (Bw 0) kf (kdB Bw) := q.2.1
  have fw : isA (Bw 0) wf (wdB Bw) := q.2.2.1
  obtain ⟨Sh, fs, hSo⟩ := q.2.2.2.1
  have hre : reR (Bw 0) Rr Bw := q.2.2.2.2.1
  have hnx : nx < 8 := q.2.2.2.2.2.1
  have hSs : ∀ j, j < Bw 0 → Sh j < spB Bw := fun j hj => (hSo j hj).1
  have hsp : spB Bw ≤ 47045881 := (spB_b hm).2
  have hsp0 : 0 < spB Bw := (spB_b hm).1
  have hrg : rgB Bw < 2 ^ 31 := by have := (rgB_b hm).2; omega
  have hR : rOk (Bw 0) (wdB Bw) Rr := q.ro
  have hkn : Bw 39 ≤ 8 := hm.2.2.2.1
  have hh : Bw 1 ≤ Bw 0 := hm.2.1
  have h6 : Bw 0 ≤ 6 := hm.n
  obtain ⟨hz, hl3, hit⟩ := id hsr
  obtain ⟨v1, e1⟩ : ∃ v, xs (i + 1) = v := ⟨_, rfl⟩
  obtain ⟨v2, e2⟩ : ∃ v, xs (i + 2) = v := ⟨_, rfl⟩
  obtain ⟨v3, e3⟩ : ∃ v, xs (i + 3) = v := ⟨_, rfl⟩
  obtain ⟨v4, e4⟩ : ∃ v, xs (i + 4) = v := ⟨_, rfl⟩
  obtain ⟨v5, e5⟩ : ∃ v, xs (i + 5) = v := ⟨_, rfl⟩
  refine lv_aload_n hx hb dL_law_1293 rfl (lv_at hl 1 rfl) ?_
  refine la_arg hx hb hX hbl hbA hS hl hL e1 (by omega) dL_law_1294 dL_law_1295 dL_law_1296 (by decide) dL_law_1297 dL_law_1298 ?_
  refine la_arg hx hb hX hbl hbA hS hl hL e2 (by omega) dL_law_1299 dL_law_1300 dL_law_1301 (by decide) dL_law_1302 dL_law_1303 ?_
  refine la_arg hx hb hX hbl hbA hS hl hL e3 (by omega) dL_law_1304 dL_law_1305 dL_law_1306 (by decide) dL_law_1307 dL_law_1308 ?_
  refine la_arg hx hb hX hbl hbA hS hl hL e4 (by omega) dL_law_1309 dL_law_1310 dL_law_1311 (by decide) dL_law_1312 dL_law_1313 ?_
  refine la_arg hx hb hX hbl hbA hS hl hL e5 (by omega) dL_law_1314 dL_law_1315 dL_law_1316 (by decide) dL_law_1317 dL_law_1318 ?_
  by_cases hbad : (inb v1 4 && inb v3 4) = false
  · skip
    refine rr_callR (va_runV (As := [.int v1, .int v2, .int v3, .int v4, .int v5]) (rest := []) ⟨hx, hb, hml, hown, hts⟩ (c_X4_copy_b l dC dI cI cJ cS (xa 0) (xa 9) (xa 15) (xa 23) im (xa 1) (xa 2) (xa 3) (xa 4) (xa 5) (xa 6) (xa 7) (xa 8) (Bw 0) (Bw 1) (rgB Bw) (spB Bw) (Bw 14) (Bw 39) nx kf wf sf (kdB Bw) (wdB Bw) Sh Rr Pr Pd v1 v2 v3 v4 v5 (hbad)) (cwV 5 hts gL_law_X4_copy rfl rfl rfl (by decide +kernel) ⟨Nat.le_of_ble_eq_true rfl, Nat.le_of_ble_eq_true rfl⟩) (rr_preV hKK (hP.sub [0, 1, 2, 3, 4, 5, 6, 7, 8] rfl) rfl rfl) rfl rfl hl.1 rfl (lv_room (Nat.le_of_ble_eq_true rfl)) dL_law_1319 ⟨Nat.le_of_ble_eq_true rfl, Nat.le_of_ble_eq_true rfl⟩) ?_
    refine lv_aload_n hx hb dL_law_1322 rfl (lv_at hl 2 rfl) ?_
    refine la_arg hx hb hX hbl hbA hS hl hL e1 (by omega) dL_law_1323 dL_law_1324 dL_law_1325 (by decide) dL_law_1326 dL_law_1327 ?_
    refine la_arg hx hb hX hbl hbA hS hl hL e2 (by omega) dL_law_1328 dL_law_1329 dL_law_1330 (by decide) dL_law_1331 dL_law_1332 ?_
    refine la_arg hx hb hX hbl hbA hS hl hL e3 (by omega) dL_law_1333 dL_law_1334 dL_law_1335 (by decide) dL_law_1336 dL_law_1337 ?_
    refine la_arg hx hb hX hbl hbA hS hl hL e4 (by omega) dL_law_1338 dL_law_1339 dL_law_1340 (by decide) dL_law_1341 dL_law_1342 ?_
    refine la_arg hx hb hX hbl hbA hS hl hL e5 (by omega) dL_law_1343 dL_law_1344 dL_law_1345 (by decide) dL_law_1346 dL_law_1347 ?_
    refine rr_callR (va_runV (As := [.int v1, .int v2, .int v3, .int v4, .int v5]) (rest := [.int (-1)]) ⟨hx, hb, hml, hown, hts⟩ (c_X5_copy_b l dC dI cI cJ cS (xa 32) (xa 33) (xa 34) (xa 35) (xa 36) (xa 37) (xa 38) (xa 39) (xa 40) im tn at0 st0 nu rm rh Bw v1 v2 v3 v4 v5 (hbad)) (cwV 5 hts gL_law_X5_copy rfl rfl rfl (by decide +kernel) ⟨Nat.le_of_ble_eq_true rfl, Nat.le_of_ble_eq_true rfl⟩) (rr_preV hKK (hP.sub [32, 33] rfl) rfl rfl) rfl rfl hl.1 rfl (lv_room (Nat.le_of_ble_eq_true rfl)) dL_law_1348 ⟨Nat.le_of_ble_eq_true rfl, Nat.le_of_ble_eq_true rfl⟩) ?_
    refine lv_icmp_eq (tgt := 1356) hx hb dL_law_1351 (by decide) (fun _ => ?_) (fun c9 => absurd (rfl) c9)
    exact hk _ _ _ (LI_mk0 (nRl.rf q) (hkr) (ht) (hsr) hP hD hS hl)
  · simp only [Bool.not_eq_false, Bool.and_eq_true] at hbad
    obtain ⟨sh, hs4, rfl⟩ := inb_of (by decide) hbad.1
    obtain ⟨sg, hg4, rfl⟩ := inb_of (by decide) hbad.2
    by_cases hsg : sh = sg
    · subst hsg
      obtain ⟨i1, i2, i3, hpm, m1, m2, m3⟩ := pm1 hs4
      replace hP := pm_P hpm hP
      replace hD := pm_D hpm hD
      by_cases hth : Th sh = true
      · by_cases hbd : (hasS (Sz sh) v2 v5 && hasS (Sz sh) v4 v5) = false
        · skip
          refine rr_callR (va_runV (As := [.int (nI sh), .int v2, .int (nI sh), .int v4, .int v5]) (rest := []) ⟨hx, hb, hml, hown, hts⟩ (c_X4_copy_is l dC dI cI cJ cS (xa 0) (xa 9) (xa 1) (xa 15) (xa 23) im sd sq sh (Th sh) (Ln sh) (Sz sh) (Rw sh) v2 v4 v5 (hs4) (hz sh hs4) (hth) (hbd) (hl3 sh hs4)) (cwV 5 hts gL_law_X4_copy rfl rfl rfl (by decide +kernel) ⟨Nat.le_of_ble_eq_true rfl, Nat.le_of_ble_eq_true rfl⟩) (rr_preV hKK (hP.sub [0, 23, 24, 25] rfl) rfl rfl) rfl rfl hl.1 rfl (lv_room (Nat.le_of_ble_eq_true rfl)) dL_law_1319 ⟨Nat.le_of_ble_eq_true rfl, Nat.le_of_ble_eq_true rfl⟩) ?_
          refine lv_aload_n hx hb dL_law_1322 rfl (lv_at hl 2 rfl) ?_
          refine la_arg hx hb hX hbl hbA hS hl hL e1 (by omega) dL_law_1323 dL_law_1324 dL_law_1325 (by decide) dL_law_1326 dL_law_1327 ?_
          refine la_arg hx hb hX hbl hbA hS hl hL e2 (by omega) dL_law_1328 dL_law_1329 dL_law_1330 (by decide) dL_law_1331 dL_law_1332 ?_
          refine la_arg hx hb hX hbl hbA hS hl hL e3 (by omega) dL_law_1333 dL_law_1334 dL_law_1335 (by decide) dL_law_1336 dL_law_1337 ?_
          refine la_arg hx hb hX hbl hbA hS hl hL e4 (by omega) dL_law_1338 dL_law_1339 dL_law_1340 (by decide) dL_law_1341 dL_law_1342 ?_
          refine la_arg hx hb hX hbl hbA hS hl hL e5 (by omega) dL_law_1343 dL_law_1344 dL_law_1345 (by decide) dL_law_1346 dL_law_1347 ?_
          refine rr_callR (va_runV (As := [.int (nI sh), .int v2, .int (nI sh), .int v4, .int v5]) (rest := [.int (-13)]) ⟨hx, hb, hml, hown, hts⟩ (c_X5_copy_i l dC dI cI cJ cS (xa 32) (xa 33) (xa 34) (xa 35) (xa 36) (xa 37) (xa 38) (xa 39) (xa 40) im tn at0 st0 nu rm rh Th Ln Sz It Hl sh sh v2 v4 v5 (hz) (hl3) (hs4) (hg4) (hth) (hth) (rfl) (hbd)) (cwV 5 hts gL_law_X5_copy rfl rfl rfl (by decide +kernel) ⟨Nat.le_of_ble_eq_true rfl, Nat.le_of_ble_eq_true rfl⟩) (rr_preV hKK (hP.sub [32, 35, 36, 37, 40] rfl) rfl rfl) rfl rfl hl.1 rfl (lv_room (Nat.le_of_ble_eq_true rfl)) dL_law_1348 ⟨Nat.le_of_ble_eq_true rfl, Nat.le_of_ble_eq_true rfl⟩) ?_
          refine lv_icmp_eq (tgt := 1356) hx hb dL_law_1351 (by decide) (fun _ => ?_) (fun c9 => absurd (rfl) c9)
          exact hk _ _ _ (LI_mk (Rw := Rw) (hpm) (⟨rfl, rfl, rfl, rfl⟩) (⟨rfl, rfl, rfl, rfl⟩) (⟨rfl, rfl, rfl, rfl⟩) (⟨rfl, rfl, rfl, rfl⟩) (nRl.rf q) (hkr) (ht) (hsr) hP hD hS hl)
        · simp only [Bool.not_eq_false, Bool.and_eq_true] at hbd
          obtain ⟨a, t, rfl, rfl, has⟩ := hasS_of (hz sh hs4) hbd.1
          have hzs := hz sh hs4
          obtain ⟨d, rfl, hbs⟩ := has_at (hz sh hs4) (by omega) hbd.2
          refine lq_calli (va_runV (As := [.int (nI sh), .int (nI a), .int (nI sh), .int (nI d), .int (nI t)]) (rest := []) ⟨hx, hb, hml, hown, hts⟩ (c_X4_copy_gs l dC dI cI cJ cS _ (xa 0) (xa 9) (xa 1) (xa 15) (xa 23) im sd sq sh (Th sh) (Ln sh) (Sz sh) (Rw sh) a d t (hs4) (hz sh hs4) (hth) (has) (hbs) (hl3 sh hs4)) (cwV 5 hts gL_law_X4_copy rfl rfl rfl (by decide +kernel) ⟨Nat.le_of_ble_eq_true rfl, Nat.le_of_ble_eq_true rfl⟩) (rw_preV hKK (hP.sub [0, 23, 24, 25] rfl) (hD.sub [0, 23, 24, 25] (by decide) rfl) rfl rfl) rfl rfl hl.1 rfl (lv_room (Nat.le_of_ble_eq_true rfl)) dL_law_1319 ⟨Nat.le_of_ble_eq_true rfl, Nat.le_of_ble_eq_true rfl⟩) hP hD hS hA [0, 23, 24, 25] [1, 2, 3, 4, 5, 6, 7, 8, 9, 10, 11, 12, 13, 14, 15, 16, 17, 18, 19, 20, 21, 22, 26, 27, 28, 29, 30, 31, 32, 33, 34, 35, 36, 37, 38, 39, 40] rfl rfl (by decide) (by decide) [37, 0, 1, 2, 3, 4, 5, 6, 7, 8, 9, 10, 11, 12, 13, 14, 15, 16, 17, 18, 19, 20, 21, 38, 39, 40, 22, 23, 24, 25, 26, 27, 28, 29, 30, 31, 32, 33, 34, 35, 36] (lawW cI cJ cS xa sd sq im (Bw 0) (Bw 1) (rgB Bw) (spB Bw) (Bw 14) (Bw 39) nx kf wf sf Rr Pr Pd tn tp n2 h2 rg2 sp2 Tp Kq Wq sf2 n1 h1 rg1 sp1 dr1 kn1 nx1 kf1 wf1 sf1 R1 P1 D1 sh (Th sh) (Ln sh) (Sz sh) (va_cpy (Rw sh) (Rw sh) a d t) i1 (Th i1) (Ln i1) (Sz i1) (Rw i1) i2 (Th i2) (Ln i2) (Sz i2) (Rw i2) i3 (Th i3) (Ln i3) (Sz i3) (Rw i3) im tn at0 st0 nu rm rh Bw Tp (laF Th Ln) Sz It Rs Rd Hl) (by decide) rfl (fun H locs hP hD hS => ?_)
          refine lv_aload_n hx hb dL_law_1322 rfl (lv_at hl 2 rfl) ?_
          refine la_arg hx hb hX hbl hbA hS hl hL e1 (by omega) dL_law_1323 dL_law_1324 dL_law_1325 (by decide) dL_law_1326 dL_law_1327 ?_
          refine la_arg hx hb hX hbl hbA hS hl hL e2 (by omega) dL_law_1328 dL_law_1329 dL_law_1330 (by decide) dL_law_1331 dL_law_1332 ?_
          refine la_arg hx hb hX hbl hbA hS hl hL e3 (by omega) dL_law_1333 dL_law_1334 dL_law_1335 (by decide) dL_law_1336 dL_law_1337 ?_
          refine la_arg hx hb hX hbl hbA hS hl hL e4 (by omega) dL_law_1338 dL_law_1339 dL_law_1340 (by decide) dL_law_1341 dL_law_1342 ?_
          refine la_arg hx hb hX hbl hbA hS hl hL e5 (by omega) dL_law_1343 dL_law_1344 dL_law_1345 (by decide) dL_law_1346 dL_law_1347 ?_
          refine lq_calli (va_runV (As := [.int (nI sh), .int (nI a), .int (nI sh), .int (nI d), .int (nI t)]) (rest := [.int (nI t)]) ⟨hx, hb, hml, hown, hts⟩ (c_X5_copy_g l dC dI cI cJ cS _ (xa 32) (xa 33) (xa 34) (xa 35) (xa 36) (xa 37) (xa 38) (xa 39) (xa 40) im tn at0 st0 nu rm rh Th Ln Sz It Hl sh a sh d t (hz) (hl3) (hs4) (hg4) (hth) (hth) (rfl) (has) (hbs)) (cwV 5 hts gL_law_X5_copy rfl rfl rfl (by decide +kernel) ⟨Nat.le_of_ble_eq_true rfl, Nat.le_of_ble_eq_true rfl⟩) (rw_preV hKK (hP.sub [32, 35, 36, 37, 40] rfl) (hD.sub [32, 35, 36, 37, 40] (by decide) rfl) rfl rfl) rfl rfl hl.1 rfl (lv_room (Nat.le_of_ble_eq_true rfl)) dL_law_1348 ⟨Nat.le_of_ble_eq_true rfl, Nat.le_of_ble_eq_true rfl⟩) hP hD hS hA [32, 35, 36, 37, 40] [0, 1, 2, 3, 4, 5, 6, 7, 8, 9, 10, 11, 12, 13, 14, 15, 16, 17, 18, 19, 20, 21, 22, 23, 24, 25, 26, 27, 28, 29, 30, 31, 33, 34, 38, 39] rfl rfl (by decide) (by decide) [0, 1, 2, 3, 4, 5, 6, 7, 8, 9, 10, 11, 12, 13, 14, 15, 16, 17, 18, 19, 20, 21, 22, 23, 24, 25, 26, 27, 28, 29, 30, 31, 36, 32, 33, 37, 38, 39, 34, 35, 40] (lawW cI cJ cS xa sd sq im (Bw 0) (Bw 1) (rgB Bw) (spB Bw) (Bw 14) (Bw 39) nx kf wf sf Rr Pr Pd tn tp n2 h2 rg2 sp2 Tp Kq Wq sf2 n1 h1 rg1 sp1 dr1 kn1 nx1 kf1 wf1 sf1 R1 P1 D1 sh (Th sh) (Ln sh) (Sz sh) (va_cpy (Rw sh) (Rw sh) a d t) i1 (Th i1) (Ln i1) (Sz i1) (Rw i1) i2 (Th i2) (Ln i2) (Sz i2) (Rw i2) i3 (Th i3) (Ln i3) (Sz i3) (Rw i3) im tn at0 st0 nu rm rh Bw Tp (laF Th Ln) Sz (flI It (24 * sh + d) (fun k => It (24 * sh + a + k)) t) Rs Rd (flI Hl 0 (fun k => It (24 * sh + a + k)) t)) (by decide) rfl (fun H locs hP hD hS => ?_)
          refine lv_icmp_eq (tgt := 1356) hx hb dL_law_1351 (by decide) (fun _ => ?_) (fun c9 => absurd (rfl) c9)
          exact hk _ _ _ (LI_mk (Rw := uR Rw sh (va_cpy (Rw sh) (Rw sh) a d t)) (hpm) (⟨rfl, rfl, rfl, uR_eq.symm⟩) (⟨rfl, rfl, rfl, (uR_ne m1).symm⟩) (⟨rfl, rfl, rfl, (uR_ne m2).symm⟩) (⟨rfl, rfl, rfl, (uR_ne m3).symm⟩) (nRl.rf q) (hkr) (ht) (shR.row hsr hs4 (fun k hk => cp_row (fun k hk => hit sh k hs4 hk) (fun k hk => hit sh k hs4 hk) (by omega) hk) (fun j hj => flI_out (by omega))) hP hD hS hl)
      · have hth : Th sh = false := Bool.eq_false_iff.mpr hth
        refine rr_callR (va_runV (As := [.int (nI sh), .int v2, .int (nI sh), .int v4, .int v5]) (rest := []) ⟨hx, hb, hml, hown, hts⟩ (c_X4_copy_ns l dC dI cI cJ cS (xa 0) (xa 9) (xa 1) (xa 15) (xa 23) im sd sq sh (Th sh) (Ln sh) (Sz sh) (Rw sh) v2 v4 v5 (hs4) (hz sh hs4) (hth)) (cwV 5 hts gL_law_X4_copy rfl rfl rfl (by decide +kernel) ⟨Nat.le_of_ble_eq_true rfl, Nat.le_of_ble_eq_true rfl⟩) (rr_preV hKK (hP.sub [0, 23, 24, 25] rfl) rfl rfl) rfl rfl hl.1 rfl (lv_room (Nat.le_of_ble_eq_true rfl)) dL_law_1319 ⟨Nat.le_of_ble_eq_true rfl, Nat.le_of_ble_eq_true rfl⟩) ?_
        refine lv_aload_n hx hb dL_law_1322 rfl (lv_at hl 2 rfl) ?_
        refine la_arg hx hb hX hbl hbA hS hl hL e1 (by omega) dL_law_1323 dL_law_1324 dL_law_1325 (by decide) dL_law_1326 dL_law_1327 ?_
        refine la_arg hx hb hX hbl hbA hS hl hL e2 (by omega) dL_law_1328 dL_law_1329 dL_law_1330 (by decide) dL_law_1331 dL_law_1332 ?_
        refine la_arg hx hb hX hbl hbA hS hl hL e3 (by omega) dL_law_1333 dL_law_1334 dL_law_1335 (by decide) dL_law_1336 dL_law_1337 ?_
        refine la_arg hx hb hX hbl hbA hS hl hL e4 (by omega) dL_law_1338 dL_law_1339 dL_law_1340 (by decide) dL_law_1341 dL_law_1342 ?_
        refine la_arg hx hb hX hbl hbA hS hl hL e5 (by omega) dL_law_1343 dL_law_1344 dL_law_1345 (by decide) dL_law_1346 dL_law_1347 ?_
        refine rr_callR (va_runV (As := [.int (nI sh), .int v2, .int (nI sh), .int v4, .int v5]) (rest := [.int (-11)]) ⟨hx, hb, hml, hown, hts⟩ (c_X5_copy_n l dC dI cI cJ cS (xa 32) (xa 33) (xa 34) (xa 35) (xa 36) (xa 37) (xa 38) (xa 39) (xa 40) im tn at0 st0 nu rm rh Th Ln Sz It Hl sh sh v2 v4 v5 (hz) (hl3) (hs4) (hs4) (by rw [hth]; rfl)) (cwV 5 hts gL_law_X5_copy rfl rfl rfl (by decide +kernel) ⟨Nat.le_of_ble_eq_true rfl, Nat.le_of_ble_eq_true rfl⟩) (rr_preV hKK (hP.sub [32, 35, 36, 37, 40] rfl) rfl rfl) rfl rfl hl.1 rfl (lv_room (Nat.le_of_ble_eq_true rfl)) dL_law_1348 ⟨Nat.le_of_ble_eq_true rfl, Nat.le_of_ble_eq_true rfl⟩) ?_
        refine lv_icmp_eq (tgt := 1356) hx hb dL_law_1351 (by decide) (fun _ => ?_) (fun c9 => absurd (rfl) c9)
        exact hk _ _ _ (LI_mk (Rw := Rw) (hpm) (⟨rfl, rfl, rfl, rfl⟩) (⟨rfl, rfl, rfl, rfl⟩) (⟨rfl, rfl, rfl, rfl⟩) (⟨rfl, rfl, rfl, rfl⟩) (nRl.rf q) (hkr) (ht) (hsr) hP hD hS hl)
    · obtain ⟨i2, i3, hpm, m2, m3⟩ := pm2 hs4 hg4 hsg
      replace hP := pm_P hpm hP
      replace hD := pm_D hpm hD
      have hzs := hz sh hs4
      have hzg := hz sg hg4
      by_cases htt : (Th sh && Th sg) = false
      · skip
        refine rr_callR (va_runV (As := [.int (nI sh), .int v2, .int (nI sg), .int v4, .int v5]) (rest := []) ⟨hx, hb, hml, hown, hts⟩ (c_X4_copy_n l dC dI cI cJ cS (xa 0) (xa 9) (xa 1) (xa 15) (xa 23) im sd sq sh (Th sh) (Ln sh) (Sz sh) (Rw sh) sg (Th sg) (Ln sg) (Sz sg) (Rw sg) v2 v4 v5 (hs4) (hzs) (hg4) (hzg) (htt)) (cwV 5 hts gL_law_X4_copy rfl rfl rfl (by decide +kernel) ⟨Nat.le_of_ble_eq_true rfl, Nat.le_of_ble_eq_true rfl⟩) (rr_preV hKK (hP.sub [0, 23, 24, 25, 26, 27] rfl) rfl rfl) rfl rfl hl.1 rfl (lv_room (Nat.le_of_ble_eq_true rfl)) dL_law_1319 ⟨Nat.le_of_ble_eq_true rfl, Nat.le_of_ble_eq_true rfl⟩) ?_
        refine lv_aload_n hx hb dL_law_1322 rfl (lv_at hl 2 rfl) ?_
        refine la_arg hx hb hX hbl hbA hS hl hL e1 (by omega) dL_law_1323 dL_law_1324 dL_law_1325 (by decide) dL_law_1326 dL_law_1327 ?_
        refine la_arg hx hb hX hbl hbA hS hl hL e2 (by omega) dL_law_1328 dL_law_1329 dL_law_1330 (by decide) dL_law_1331 dL_law_1332 ?_
        refine la_arg hx hb hX hbl hbA hS hl hL e3 (by omega) dL_law_1333 dL_law_1334 dL_law_1335 (by decide) dL_law_1336 dL_law_1337 ?_
        refine la_arg hx hb hX hbl hbA hS hl hL e4 (by omega) dL_law_1338 dL_law_1339 dL_law_1340 (by decide) dL_law_1341 dL_law_1342 ?_
        refine la_arg hx hb hX hbl hbA hS hl hL e5 (by omega) dL_law_1343 dL_law_1344 dL_law_1345 (by decide) dL_law_1346 dL_law_1347 ?_
        refine rr_callR (va_runV (As := [.int (nI sh), .int v2, .int (nI sg), .int v4, .int v5]) (rest := [.int (-11)]) ⟨hx, hb, hml, hown, hts⟩ (c_X5_copy_n l dC dI cI cJ cS (xa 32) (xa 33) (xa 34) (xa 35) (xa 36) (xa 37) (xa 38) (xa 39) (xa 40) im tn at0 st0 nu rm rh Th Ln Sz It Hl sh sg v2 v4 v5 (hz) (hl3) (hs4) (hg4) (htt)) (cwV 5 hts gL_law_X5_copy rfl rfl rfl (by decide +kernel) ⟨Nat.le_of_ble_eq_true rfl, Nat.le_of_ble_eq_true rfl⟩) (rr_preV hKK (hP.sub [32, 35, 36, 37, 40] rfl) rfl rfl) rfl rfl hl.1 rfl (lv_room (Nat.le_of_ble_eq_true rfl)) dL_law_1348 ⟨Nat.le_of_ble_eq_true rfl, Nat.le_of_ble_eq_true rfl⟩) ?_
        refine lv_icmp_eq (tgt := 1356) hx hb dL_law_1351 (by decide) (fun _ => ?_) (fun c9 => absurd (rfl) c9)
        exact hk _ _ _ (LI_mk (Rw := Rw) (hpm) (⟨rfl, rfl, rfl, rfl⟩) (⟨rfl, rfl, rfl, rfl⟩) (⟨rfl, rfl, rfl, rfl⟩) (⟨rfl, rfl, rfl, rfl⟩) (nRl.rf q) (hkr) (ht) (hsr) hP hD hS hl)
      · simp only [Bool.not_eq_false, Bool.and_eq_true] at htt
        have hth := htt.1
        have htg := htt.2
        by_cases hln : Ln sh = Ln sg
        · by_cases hbd : (hasS (Sz sh) v2 v5 && hasS (Sz sg) v4 v5) = false
          · skip
            refine rr_callR (va_runV (As := [.int (nI sh), .int v2, .int (nI sg), .int v4, .int v5]) (rest := []) ⟨hx, hb, hml, hown, hts⟩ (c_X4_copy_i l dC dI cI cJ cS (xa 0) (xa 9) (xa 1) (xa 15) (xa 23) im sd sq sh (Th sh) (Ln sh) (Sz sh) (Rw sh) sg (Th sg) (Ln sg) (Sz sg) (Rw sg) v2 v4 v5 (hs4) (hzs) (hg4) (hzg) (hth) (htg) (hln) (hl3 sh hs4) (hl3 sg hg4) (hbd)) (cwV 5 hts gL_law_X4_copy rfl rfl rfl (by decide +kernel) ⟨Nat.le_of_ble_eq_true rfl, Nat.le_of_ble_eq_true rfl⟩) (rr_preV hKK (hP.sub [0, 23, 24, 25, 26, 27] rfl) rfl rfl) rfl rfl hl.1 rfl (lv_room (Nat.le_of_ble_eq_true rfl)) dL_law_1319 ⟨Nat.le_of_ble_eq_true rfl, Nat.le_of_ble_eq_true rfl⟩) ?_
            refine lv_aload_n hx hb dL_law_1322 rfl (lv_at hl 2 rfl) ?_
            refine la_arg hx hb hX hbl hbA hS hl hL e1 (by omega) dL_law_1323 dL_law_1324 dL_law_1325 (by decide) dL_law_1326 dL_law_1327 ?_
            refine la_arg hx hb hX hbl hbA hS hl hL e2 (by omega) dL_law_1328 dL_law_1329 dL_law_1330 (by decide) dL_law_1331 dL_law_1332 ?_
            refine la_arg hx hb hX hbl hbA hS hl hL e3 (by omega) dL_law_1333 dL_law_1334 dL_law_1335 (by decide) dL_law_1336 dL_law_1337 ?_
            refine la_arg hx hb hX hbl hbA hS hl hL e4 (by omega) dL_law_1338 dL_law_1339 dL_law_1340 (by decide) dL_law_1341 dL_law_1342 ?_
            refine la_arg hx hb hX hbl hbA hS hl hL e5 (by omega) dL_law_1343 dL_law_1344 dL_law_1345 (by decide) dL_law_1346 dL_law_1347 ?_
            refine rr_callR (va_runV (As := [.int (nI sh), .int v2, .int (nI sg), .int v4, .int v5]) (rest := [.int (-13)]) ⟨hx, hb, hml, hown, hts⟩ (c_X5_copy_i l dC dI cI cJ cS (xa 32) (xa 33) (xa 34) (xa 35) (xa 36) (xa 37) (xa 38) (xa 39) (xa 40) im tn at0 st0 nu rm rh Th Ln Sz It Hl sh sg v2 v4 v5 (hz) (hl3) (hs4) (hg4) (hth) (htg) (hln) (hbd)) (cwV 5 hts gL_law_X5_copy rfl rfl rfl (by decide +kernel) ⟨Nat.le_of_ble_eq_true rfl, Nat.le_of_ble_eq_true rfl⟩) (rr_preV hKK (hP.sub [32, 35, 36, 37, 40] rfl) rfl rfl) rfl rfl hl.1 rfl (lv_room (Nat.le_of_ble_eq_true rfl)) dL_law_1348 ⟨Nat.le_of_ble_eq_true rfl, Nat.le_of_ble_eq_true rfl⟩) ?_
            refine lv_icmp_eq (tgt := 1356) hx hb dL_law_1351 (by decide) (fun _ => ?_) (fun c9 => absurd (rfl) c9)
            exact hk _ _ _ (LI_mk (Rw := Rw) (hpm) (⟨rfl, rfl, rfl, rfl⟩) (⟨rfl, rfl, rfl, rfl⟩) (⟨rfl, rfl, rfl, rfl⟩) (⟨rfl, rfl, rfl, rfl⟩) (nRl.rf q) (hkr) (ht) (hsr) hP hD hS hl)
          · simp only [Bool.not_eq_false, Bool.and_eq_true] at hbd
            obtain ⟨a, t, rfl, rfl, has⟩ := hasS_of hzs hbd.1
            obtain ⟨d, rfl, hbs⟩ := has_at hzg (by omega) hbd.2
            refine lq_calli (va_runV (As := [.int (nI sh), .int (nI a), .int (nI sg), .int (nI d), .int (nI t)]) (rest := []) ⟨hx, hb, hml, hown, hts⟩ (c_X4_copy_g l dC dI cI cJ cS _ (xa 0) (xa 9) (xa 1) (xa 15) (xa 23) im sd sq sh (Th sh) (Ln sh) (Sz sh) (Rw sh) sg (Th sg) (Ln sg) (Sz sg) (Rw sg) a d t (hs4) (hzs) (hg4) (hzg) (hth) (htg) (hln) (hl3 sh hs4) (hl3 sg hg4) (has) (hbs)) (cwV 5 hts gL_law_X4_copy rfl rfl rfl (by decide +kernel) ⟨Nat.le_of_ble_eq_true rfl, Nat.le_of_ble_eq_true rfl⟩) (rw_preV hKK (hP.sub [0, 23, 24, 25, 26, 27] rfl) (hD.sub [0, 23, 24, 25, 26, 27] (by decide) rfl) rfl rfl) rfl rfl hl.1 rfl (lv_room (Nat.le_of_ble_eq_true rfl)) dL_law_1319 ⟨Nat.le_of_ble_eq_true rfl, Nat.le_of_ble_eq_true rfl⟩) hP hD hS hA [0, 23, 24, 25, 26, 27] [1, 2, 3, 4, 5, 6, 7, 8, 9, 10, 11, 12, 13, 14, 15, 16, 17, 18, 19, 20, 21, 22, 28, 29, 30, 31, 32, 33, 34, 35, 36, 37, 38, 39, 40] rfl rfl (by decide) (by decide) [35, 0, 1, 2, 3, 4, 5, 6, 7, 8, 9, 10, 11, 12, 13, 14, 15, 16, 17, 18, 19, 20, 21, 36, 37, 38, 39, 40, 22, 23, 24, 25, 26, 27, 28, 29, 30, 31, 32, 33, 34] (lawW cI cJ cS xa sd sq im (Bw 0) (Bw 1) (rgB Bw) (spB Bw) (Bw 14) (Bw 39) nx kf wf sf Rr Pr Pd tn tp n2 h2 rg2 sp2 Tp Kq Wq sf2 n1 h1 rg1 sp1 dr1 kn1 nx1 kf1 wf1 sf1 R1 P1 D1 sh (Th sh) (Ln sh) (Sz sh) (Rw sh) sg (Th sg) (Ln sg) (Sz sg) (va_cpy (Rw sh) (Rw sg) a d t) i2 (Th i2) (Ln i2) (Sz i2) (Rw i2) i3 (Th i3) (Ln i3) (Sz i3) (Rw i3) im tn at0 st0 nu rm rh Bw Tp (laF Th Ln) Sz It Rs Rd Hl) (by decide) rfl (fun H locs hP hD hS => ?_)
            refine lv_aload_n hx hb dL_law_1322 rfl (lv_at hl 2 rfl) ?_
            refine la_arg hx hb hX hbl hbA hS hl hL e1 (by omega) dL_law_1323 dL_law_1324 dL_law_1325 (by decide) dL_law_1326 dL_law_1327 ?_
            refine la_arg hx hb hX hbl hbA hS hl hL e2 (by omega) dL_law_1328 dL_law_1329 dL_law_1330 (by decide) dL_law_1331 dL_law_1332 ?_
            refine la_arg hx hb hX hbl hbA hS hl hL e3 (by omega) dL_law_1333 dL_law_1334 dL_law_1335 (by decide) dL_law_1336 dL_law_1337 ?_
            refine la_arg hx hb hX hbl hbA hS hl hL e4 (by omega) dL_law_1338 dL_law_1339 dL_law_1340 (by decide) dL_law_1341 dL_law_1342 ?_
            refine la_arg hx hb hX hbl hbA hS hl hL e5 (by omega) dL_law_1343 dL_law_1344 dL_law_1345 (by decide) dL_law_1346 dL_law_1347 ?_
            refine lq_calli (va_runV (As := [.int (nI sh), .int (nI a), .int (nI sg), .int (nI d), .int (nI t)]) (rest := [.int (nI t)]) ⟨hx, hb, hml, hown, hts⟩ (c_X5_copy_g l dC dI cI cJ cS _ (xa 32) (xa 33) (xa 34) (xa 35) (xa 36) (xa 37) (xa 38) (xa 39) (xa 40) im tn at0 st0 nu rm rh Th Ln Sz It Hl sh a sg d t (hz) (hl3) (hs4) (hg4) (hth) (htg) (hln) (has) (hbs)) (cwV 5 hts gL_law_X5_copy rfl rfl rfl (by decide +kernel) ⟨Nat.le_of_ble_eq_true rfl, Nat.le_of_ble_eq_true rfl⟩) (rw_preV hKK (hP.sub [32, 35, 36, 37, 40] rfl) (hD.sub [32, 35, 36, 37, 40] (by decide) rfl) rfl rfl) rfl rfl hl.1 rfl (lv_room (Nat.le_of_ble_eq_true rfl)) dL_law_1348 ⟨Nat.le_of_ble_eq_true rfl, Nat.le_of_ble_eq_true rfl⟩) hP hD hS hA [32, 35, 36, 37, 40] [0, 1, 2, 3, 4, 5, 6, 7, 8, 9, 10, 11, 12, 13, 14, 15, 16, 17, 18, 19, 20, 21, 22, 23, 24, 25, 26, 27, 28, 29, 30, 31, 33, 34, 38, 39] rfl rfl (by decide) (by decide) [0, 1, 2, 3, 4, 5, 6, 7, 8, 9, 10, 11, 12, 13, 14, 15, 16, 17, 18, 19, 20, 21, 22, 23, 24, 25, 26, 27, 28, 29, 30, 31, 36, 32, 33, 37, 38, 39, 34, 35, 40] (lawW cI cJ cS xa sd sq im (Bw 0) (Bw 1) (rgB Bw) (spB Bw) (Bw 14) (Bw 39) nx kf wf sf Rr Pr Pd tn tp n2 h2 rg2 sp2 Tp Kq Wq sf2 n1 h1 rg1 sp1 dr1 kn1 nx1 kf1 wf1 sf1 R1 P1 D1 sh (Th sh) (Ln sh) (Sz sh) (Rw sh) sg (Th sg) (Ln sg) (Sz sg) (va_cpy (Rw sh) (Rw sg) a d t) i2 (Th i2) (Ln i2) (Sz i2) (Rw i2) i3 (Th i3) (Ln i3) (Sz i3) (Rw i3) im tn at0 st0 nu rm rh Bw Tp (laF Th Ln) Sz (flI It (24 * sg + d) (fun k => It (24 * sh + a + k)) t) Rs Rd (flI Hl 0 (fun k => It (24 * sh + a + k)) t)) (by decide) rfl (fun H locs hP hD hS => ?_)
            refine lv_icmp_eq (tgt := 1356) hx hb dL_law_1351 (by decide) (fun _ => ?_) (fun c9 => absurd (rfl) c9)
            exact hk _ _ _ (LI_mk (Rw := uR Rw sg (va_cpy (Rw sh) (Rw sg) a d t)) (hpm) (⟨rfl, rfl, rfl, (uR_ne hsg).symm⟩) (⟨rfl, rfl, rfl, uR_eq.symm⟩) (⟨rfl, rfl, rfl, (uR_ne m2).symm⟩) (⟨rfl, rfl, rfl, (uR_ne m3).symm⟩) (nRl.rf q) (hkr) (ht) (shR.row hsr hg4 (fun k hk => cp_row (fun k hk => hit sh k hs4 hk) (fun k hk => hit sg k hg4 hk) (by omega) hk) (fun j hj => flI_out (by omega))) hP hD hS hl)
        · skip
          refine rr_callR (va_runV (As := [.int (nI sh), .int v2, .int (nI sg), .int v4, .int v5]) (rest := []) ⟨hx, hb, hml, hown, hts⟩ (c_X4_copy_c l dC dI cI cJ cS (xa 0) (xa 9) (xa 1) (xa 15) (xa 23) im sd sq sh (Th sh) (Ln sh) (Sz sh) (Rw sh) sg (Th sg) (Ln sg) (Sz sg) (Rw sg) v2 v4 v5 (hs4) (hzs) (hg4) (hzg) (hth) (htg) (hln) (hl3 sh hs4) (hl3 sg hg4)) (cwV 5 hts gL_law_X4_copy rfl rfl rfl (by decide +kernel) ⟨Nat.le_of_ble_eq_true rfl, Nat.le_of_ble_eq_true rfl⟩) (rr_preV hKK (hP.sub [0, 23, 24, 25, 26, 27] rfl) rfl rfl) rfl rfl hl.1 rfl (lv_room (Nat.le_of_ble_eq_true rfl)) dL_law_1319 ⟨Nat.le_of_ble_eq_true rfl, Nat.le_of_ble_eq_true rfl⟩) ?_
          refine lv_aload_n hx hb dL_law_1322 rfl (lv_at hl 2 rfl) ?_
          refine la_arg hx hb hX hbl hbA hS hl hL e1 (by omega) dL_law_1323 dL_law_1324 dL_law_1325 (by decide) dL_law_1326 dL_law_1327 ?_
          refine la_arg hx hb hX hbl hbA hS hl hL e2 (by omega) dL_law_1328 dL_law_1329 dL_law_1330 (by decide) dL_law_1331 dL_law_1332 ?_
          refine la_arg hx hb hX hbl hbA hS hl hL e3 (by omega) dL_law_1333 dL_law_1334 dL_law_1335 (by decide) dL_law_1336 dL_law_1337 ?_
          refine la_arg hx hb hX hbl hbA hS hl hL e4 (by omega) dL_law_1338 dL_law_1339 dL_law_1340 (by decide) dL_law_1341 dL_law_1342 ?_
          refine la_arg hx hb hX hbl hbA hS hl hL e5 (by omega) dL_law_1343 dL_law_1344 dL_law_1345 (by decide) dL_law_1346 dL_law_1347 ?_
          refine rr_callR (va_runV (As := [.int (nI sh), .int v2, .int (nI sg), .int v4, .int v5]) (rest := [.int (-12)]) ⟨hx, hb, hml, hown, hts⟩ (c_X5_copy_c l dC dI cI cJ cS (xa 32) (xa 33) (xa 34) (xa 35) (xa 36) (xa 37) (xa 38) (xa 39) (xa 40) im tn at0 st0 nu rm rh Th Ln Sz It Hl sh sg v2 v4 v5 (hz) (hl3) (hs4) (hg4) (hth) (htg) (hln)) (cwV 5 hts gL_law_X5_copy rfl rfl rfl (by decide +kernel) ⟨Nat.le_of_ble_eq_true rfl, Nat.le_of_ble_eq_true rfl⟩) (rr_preV hKK (hP.sub [32, 35, 36, 37, 40] rfl) rfl rfl) rfl rfl hl.1 rfl (lv_room (Nat.le_of_ble_eq_true rfl)) dL_law_1348 ⟨Nat.le_of_ble_eq_true rfl, Nat.le_of_ble_eq_true rfl⟩) ?_
          refine lv_icmp_eq (tgt := 1356) hx hb dL_law_1351 (by decide) (fun _ => ?_) (fun c9 => absurd (rfl) c9)
          exact hk _ _ _ (LI_mk (Rw := Rw) (hpm) (⟨rfl, rfl, rfl, rfl⟩) (⟨rfl, rfl, rfl, rfl⟩) (⟨rfl, rfl, rfl, rfl⟩) (⟨rfl, rfl, rfl, rfl⟩) (nRl.rf q) (hkr) (ht) (hsr) hP hD hS hl)
end LC
