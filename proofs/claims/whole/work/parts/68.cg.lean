section LC
variable {p : Program} {l : Launch} {e : Env} {s : State} {m : MethodId} {below : List Frame} {meth : Method} {c : Code} {b L : Nat} {xs : Nat → Int32} {dC : Nat → ClassId} {dI : Nat → Nat → Nat} {cI cJ cS : ClassId} {A : Nat → Prop} {aK aV : Nat} {xa sd sq : Nat → Nat} {i : Nat} {H : Heap} {locs : List Loc} {ls : Array Slot}
set_option maxHeartbeats 4000000 in
set_option maxRecDepth 100000 in
theorem lc_rubbed (C0 : lwC p s m meth c b L xs dC dI cI cJ cS A aK aV) (hi : i + 6 ≤ L) (hk : ∀ (H : Heap) (locs : List Loc) (ls : Array Slot), LI dC dI cI cJ cS A s.heap xa sd sq b i H locs ls → W p l e room_1 s m #[Value.ref b] below meth c H locs 100 2000 (lw_Z below #[Value.ref b] s) (F0 m 1356 ls [])) (hI : LI dC dI cI cJ cS A s.heap xa sd sq b i H locs ls) : W p l e room_1 s m #[Value.ref b] below meth c H locs 100 2000 (lw_Z below #[Value.ref b] s) (F0 m 975 ls []) := by
  obtain ⟨hx, hb, hr, hml, hown, hts, hX, hbl, hlocks, hKK, hZ, hA, hbA, hL⟩ := C0
  obtain ⟨im, _, _, _, _, _, _, nx, kf, wf, sf, Rr, Pr, Pd, tn, tp, n2, h2, rg2, sp2, Tp, Kq, Wq, sf2, n1, h1, rg1, sp1, dr1, kn1, nx1, kf1, wf1, sf1, R1, P1, D1, Th, Ln, Sz, Rw, at0, st0, nu, rm, rh, Bw, It, Rs, Rd, Hl, ⟨rfl, rfl, rfl, rfl, rfl, rfl, q⟩, hkr, ht, hsr, hP, hD, hS, hl⟩ := hI
  have hm : mOk Bw := q.1
  have ok : wOk (Bw 0) (kdB Bw) (wdB Bw) := hm.1
  have fk : isA (Bw 0) kf (kdB Bw) := q.2.1
  have fw : isA (Bw 0) wf (wdB Bw) := q.2.2.1
  obtain ⟨Sh, fs, hSo⟩ := q.2.2.2.1
  have hre : reR (Bw 0) Rr Bw := q.2.2.2.2.1
  have hnx : nx < 8 := q.2.2.2.2.2.1
  have hSs : ∀ j, j < Bw 0 → Sh j < spB Bw := fun j hj => (hSo j hj).1
  have hsp : spB Bw ≤ 47045881 := (spB_b hm).2
  have hsp0 : 0 < spB Bw := (spB_b hm).1
  have hrg : rgB Bw < 2 ^ 31 := by have := (rgB_b hm).2; omega
  have hR : rOk (Bw 0) (wdB Bw) Rr := q.ro
  have hkn : Bw 39 ≤ 8 := hm.2.2.2.1
  have hh : Bw 1 ≤ Bw 0 := hm.2.1
  have h6 : Bw 0 ≤ 6 := hm.n
  obtain ⟨hz, hl3, hit⟩ := id hsr
  obtain ⟨v1, e1⟩ : ∃ v, xs (i + 1) = v := ⟨_, rfl⟩
  obtain ⟨v2, e2⟩ : ∃ v, xs (i + 2) = v := ⟨_, rfl⟩
  obtain ⟨v3, e3⟩ : ∃ v, xs (i + 3) = v := ⟨_, rfl⟩
  obtain ⟨v4, e4⟩ : ∃ v, xs (i + 4) = v := ⟨_, rfl⟩
  refine lv_aload_n hx hb dL_law_975 rfl (lv_at hl 1 rfl) ?_
  refine la_arg hx hb hX hbl hbA hS hl hL e1 (by omega) dL_law_976 dL_law_977 dL_law_978 (by decide) dL_law_979 dL_law_980 ?_
  refine la_arg hx hb hX hbl hbA hS hl hL e2 (by omega) dL_law_981 dL_law_982 dL_law_983 (by decide) dL_law_984 dL_law_985 ?_
  refine la_arg hx hb hX hbl hbA hS hl hL e3 (by omega) dL_law_986 dL_law_987 dL_law_988 (by decide) dL_law_989 dL_law_990 ?_
  refine la_arg hx hb hX hbl hbA hS hl hL e4 (by omega) dL_law_991 dL_law_992 dL_law_993 (by decide) dL_law_994 dL_law_995 ?_
  by_cases hbad : (inb v1 4 && inb v2 4 && inb v4 2) = false
  · skip
    refine rr_callR (va_runV (As := [.int v1, .int v2, .int v3, .int v4]) (rest := []) ⟨hx, hb, hml, hown, hts⟩ (c_X4_rubbed_b l dC dI cI cJ cS (xa 0) (xa 9) (xa 15) (xa 23) im (xa 1) (xa 2) (xa 3) (xa 4) (xa 5) (xa 6) (xa 7) (xa 8) (Bw 0) (Bw 1) (rgB Bw) (spB Bw) (Bw 14) (Bw 39) nx kf wf sf (kdB Bw) (wdB Bw) Sh Rr Pr Pd v1 v2 v3 v4 (hbad)) (cwV 4 hts gL_law_X4_rubbed rfl rfl rfl (by decide +kernel) ⟨Nat.le_of_ble_eq_true rfl, Nat.le_of_ble_eq_true rfl⟩) (rr_preV hKK (hP.sub [0, 1, 2, 3, 4, 5, 6, 7, 8] rfl) rfl rfl) rfl rfl hl.1 rfl (lv_room (Nat.le_of_ble_eq_true rfl)) dL_law_996 ⟨Nat.le_of_ble_eq_true rfl, Nat.le_of_ble_eq_true rfl⟩) ?_
    refine lv_aload_n hx hb dL_law_999 rfl (lv_at hl 2 rfl) ?_
    refine la_arg hx hb hX hbl hbA hS hl hL e1 (by omega) dL_law_1000 dL_law_1001 dL_law_1002 (by decide) dL_law_1003 dL_law_1004 ?_
    refine la_arg hx hb hX hbl hbA hS hl hL e2 (by omega) dL_law_1005 dL_law_1006 dL_law_1007 (by decide) dL_law_1008 dL_law_1009 ?_
    refine la_arg hx hb hX hbl hbA hS hl hL e3 (by omega) dL_law_1010 dL_law_1011 dL_law_1012 (by decide) dL_law_1013 dL_law_1014 ?_
    refine la_arg hx hb hX hbl hbA hS hl hL e4 (by omega) dL_law_1015 dL_law_1016 dL_law_1017 (by decide) dL_law_1018 dL_law_1019 ?_
    refine rr_callR (va_runV (As := [.int v1, .int v2, .int v3, .int v4]) (rest := [.int (-1)]) ⟨hx, hb, hml, hown, hts⟩ (c_X5_rubbed_b l dC dI cI cJ cS (xa 32) (xa 33) (xa 34) (xa 35) (xa 36) (xa 37) (xa 38) (xa 39) (xa 40) im tn at0 st0 nu rm rh Bw v1 v2 v3 v4 (hm) (hbad)) (cwV 4 hts gL_law_X5_rubbed rfl rfl rfl (by decide +kernel) ⟨Nat.le_of_ble_eq_true rfl, Nat.le_of_ble_eq_true rfl⟩) (rr_preV hKK (hP.sub [32, 33] rfl) rfl rfl) rfl rfl hl.1 rfl (lv_room (Nat.le_of_ble_eq_true rfl)) dL_law_1020 ⟨Nat.le_of_ble_eq_true rfl, Nat.le_of_ble_eq_true rfl⟩) ?_
    refine lv_icmp_eq (tgt := 1356) hx hb dL_law_1023 (by decide) (fun _ => ?_) (fun c9 => absurd (rfl) c9)
    exact hk _ _ _ (LI_mk0 (nRl.rf q) (hkr) (ht) (hsr) hP hD hS hl)
  · simp only [Bool.not_eq_false, Bool.and_eq_true] at hbad
    obtain ⟨sh, hs4, rfl⟩ := inb_of (by decide) hbad.1.1
    have hwl := hbad.1.2
    have hu := hbad.2
    obtain ⟨i1, i2, i3, hpm, m1, m2, m3⟩ := pm1 hs4
    replace hP := pm_P hpm hP
    replace hD := pm_D hpm hD
    by_cases href : refI (Th sh) (Ln sh) (Sz sh) v2 v3 (nI (Bw 0)) = nI 0
    · obtain ⟨a, rfl, ha3⟩ := ref_at href (hz sh hs4) (by omega)
      have has : a + Bw 0 ≤ 24 := Nat.le_trans ha3 (hz sh hs4)
      have hrow : ∀ k, k < Bw 0 → Rw sh (a + k) = rwI It sh (a + k) := fun k hk => hit sh (a + k) hs4 (by omega)
      obtain ⟨w, hw, rfl⟩ := inb_of (by decide) hu
      rcases (show w = 0 ∨ w = 1 by omega) with rfl | rfl
      · skip
        refine rr_callR (va_runV (As := [.int (nI sh), .int v2, .int (nI a), .int (nI 0)]) (rest := []) ⟨hx, hb, hml, hown, hts⟩ (c_X4_rubbed_0 l dC dI cI cJ cS (xa 0) (xa 9) (xa 15) (xa 23) im (xa 1) (xa 2) (xa 3) (xa 4) (xa 5) (xa 6) (xa 7) (xa 8) (Bw 0) (Bw 1) (rgB Bw) (spB Bw) (Bw 14) (Bw 39) nx kf wf sf (kdB Bw) (wdB Bw) Sh Rr Pr Pd sd sq sh (Th sh) (Ln sh) (Sz sh) (Rw sh) v2 a (ok) (fk) (fw) (fs) (hSs) (hsp) (hsp0) (hR) (hrg) (hs4) (hz sh hs4) (hwl) (href) (has)) (cwV 4 hts gL_law_X4_rubbed rfl rfl rfl (by decide +kernel) ⟨Nat.le_of_ble_eq_true rfl, Nat.le_of_ble_eq_true rfl⟩) (rr_preV hKK (hP.sub [0, 1, 2, 3, 4, 5, 6, 7, 8, 23, 24, 25] rfl) rfl rfl) rfl rfl hl.1 rfl (lv_room (Nat.le_of_ble_eq_true rfl)) dL_law_996 ⟨Nat.le_of_ble_eq_true rfl, Nat.le_of_ble_eq_true rfl⟩) ?_
        refine lv_aload_n hx hb dL_law_999 rfl (lv_at hl 2 rfl) ?_
        refine la_arg hx hb hX hbl hbA hS hl hL e1 (by omega) dL_law_1000 dL_law_1001 dL_law_1002 (by decide) dL_law_1003 dL_law_1004 ?_
        refine la_arg hx hb hX hbl hbA hS hl hL e2 (by omega) dL_law_1005 dL_law_1006 dL_law_1007 (by decide) dL_law_1008 dL_law_1009 ?_
        refine la_arg hx hb hX hbl hbA hS hl hL e3 (by omega) dL_law_1010 dL_law_1011 dL_law_1012 (by decide) dL_law_1013 dL_law_1014 ?_
        refine la_arg hx hb hX hbl hbA hS hl hL e4 (by omega) dL_law_1015 dL_law_1016 dL_law_1017 (by decide) dL_law_1018 dL_law_1019 ?_
        refine rr_callR (va_runV (As := [.int (nI sh), .int v2, .int (nI a), .int (nI 0)]) (rest := [.int (nI (rbX (Bw 0) (wdB Bw) Sh (spB Bw) (rgB Bw) (Rw sh) a))]) ⟨hx, hb, hml, hown, hts⟩ (c_X5_rubbed_0 l dC dI cI cJ cS (xa 32) (xa 33) (xa 34) (xa 35) (xa 36) (xa 37) (xa 38) (xa 39) (xa 40) im tn at0 st0 nu rm rh Bw Th Ln Sz It sh a v2 (hm) (hz) (hl3) (hs4) (hwl) (href) (has)) (cwV 4 hts gL_law_X5_rubbed rfl rfl rfl (by decide +kernel) ⟨Nat.le_of_ble_eq_true rfl, Nat.le_of_ble_eq_true rfl⟩) (rr_preV hKK (hP.sub [32, 33, 35, 36, 37] rfl) rfl rfl) rfl rfl hl.1 rfl (lv_room (Nat.le_of_ble_eq_true rfl)) dL_law_1020 ⟨Nat.le_of_ble_eq_true rfl, Nat.le_of_ble_eq_true rfl⟩) ?_
        refine lv_icmp_eq (tgt := 1356) hx hb dL_law_1023 (by decide) (fun _ => ?_) (fun c9 => absurd (congrArg nI ((rub_eq ok hSo (rgB_b hm).2).1.trans (rbC_cg hrow _))) c9)
        exact hk _ _ _ (LI_mk (Rw := Rw) (hpm) (⟨rfl, rfl, rfl, rfl⟩) (⟨rfl, rfl, rfl, rfl⟩) (⟨rfl, rfl, rfl, rfl⟩) (⟨rfl, rfl, rfl, rfl⟩) (nRl.rf q) (hkr) (ht) (hsr) hP hD hS hl)
      · skip
        refine rr_callR (va_runV (As := [.int (nI sh), .int v2, .int (nI a), .int (nI 1)]) (rest := []) ⟨hx, hb, hml, hown, hts⟩ (c_X4_rubbed_1 l dC dI cI cJ cS (xa 0) (xa 9) (xa 15) (xa 23) im (xa 1) (xa 2) (xa 3) (xa 4) (xa 5) (xa 6) (xa 7) (xa 8) (Bw 0) (Bw 1) (rgB Bw) (spB Bw) (Bw 14) (Bw 39) nx kf wf sf (kdB Bw) (wdB Bw) Sh Rr Pr Pd sd sq sh (Th sh) (Ln sh) (Sz sh) (Rw sh) v2 a (ok) (fk) (fw) (fs) (hSs) (hsp) (hsp0) (hR) (hrg) (hs4) (hz sh hs4) (hwl) (href) (has)) (cwV 4 hts gL_law_X4_rubbed rfl rfl rfl (by decide +kernel) ⟨Nat.le_of_ble_eq_true rfl, Nat.le_of_ble_eq_true rfl⟩) (rr_preV hKK (hP.sub [0, 1, 2, 3, 4, 5, 6, 7, 8, 23, 24, 25] rfl) rfl rfl) rfl rfl hl.1 rfl (lv_room (Nat.le_of_ble_eq_true rfl)) dL_law_996 ⟨Nat.le_of_ble_eq_true rfl, Nat.le_of_ble_eq_true rfl⟩) ?_
        refine lv_aload_n hx hb dL_law_999 rfl (lv_at hl 2 rfl) ?_
        refine la_arg hx hb hX hbl hbA hS hl hL e1 (by omega) dL_law_1000 dL_law_1001 dL_law_1002 (by decide) dL_law_1003 dL_law_1004 ?_
        refine la_arg hx hb hX hbl hbA hS hl hL e2 (by omega) dL_law_1005 dL_law_1006 dL_law_1007 (by decide) dL_law_1008 dL_law_1009 ?_
        refine la_arg hx hb hX hbl hbA hS hl hL e3 (by omega) dL_law_1010 dL_law_1011 dL_law_1012 (by decide) dL_law_1013 dL_law_1014 ?_
        refine la_arg hx hb hX hbl hbA hS hl hL e4 (by omega) dL_law_1015 dL_law_1016 dL_law_1017 (by decide) dL_law_1018 dL_law_1019 ?_
        refine rr_callR (va_runV (As := [.int (nI sh), .int v2, .int (nI a), .int (nI 1)]) (rest := [.int (lfI (Bw 0) (wdB Bw) Sh (spB Bw) (rgB Bw) (Rw sh) a)]) ⟨hx, hb, hml, hown, hts⟩ (c_X5_rubbed_1 l dC dI cI cJ cS (xa 32) (xa 33) (xa 34) (xa 35) (xa 36) (xa 37) (xa 38) (xa 39) (xa 40) im tn at0 st0 nu rm rh Bw Th Ln Sz It sh a v2 (hm) (hz) (hl3) (hs4) (hwl) (href) (has)) (cwV 4 hts gL_law_X5_rubbed rfl rfl rfl (by decide +kernel) ⟨Nat.le_of_ble_eq_true rfl, Nat.le_of_ble_eq_true rfl⟩) (rr_preV hKK (hP.sub [32, 33, 35, 36, 37] rfl) rfl rfl) rfl rfl hl.1 rfl (lv_room (Nat.le_of_ble_eq_true rfl)) dL_law_1020 ⟨Nat.le_of_ble_eq_true rfl, Nat.le_of_ble_eq_true rfl⟩) ?_
        refine lv_icmp_eq (tgt := 1356) hx hb dL_law_1023 (by decide) (fun _ => ?_) (fun c9 => absurd ((rub_eq ok hSo (rgB_b hm).2).2.trans (rbL_cg hrow _)) c9)
        exact hk _ _ _ (LI_mk (Rw := Rw) (hpm) (⟨rfl, rfl, rfl, rfl⟩) (⟨rfl, rfl, rfl, rfl⟩) (⟨rfl, rfl, rfl, rfl⟩) (⟨rfl, rfl, rfl, rfl⟩) (nRl.rf q) (hkr) (ht) (hsr) hP hD hS hl)
    · skip
      refine rr_callR (va_runV (As := [.int (nI sh), .int v2, .int v3, .int v4]) (rest := []) ⟨hx, hb, hml, hown, hts⟩ (c_X4_rubbed_r l dC dI cI cJ cS (xa 0) (xa 9) (xa 15) (xa 23) im (xa 1) (xa 2) (xa 3) (xa 4) (xa 5) (xa 6) (xa 7) (xa 8) (Bw 0) (Bw 1) (rgB Bw) (spB Bw) (Bw 14) (Bw 39) nx kf wf sf (kdB Bw) (wdB Bw) Sh Rr Pr Pd sd sq sh (Th sh) (Ln sh) (Sz sh) (Rw sh) v2 v3 v4 (ok) (hs4) (hz sh hs4) (hwl) (hu) (href)) (cwV 4 hts gL_law_X4_rubbed rfl rfl rfl (by decide +kernel) ⟨Nat.le_of_ble_eq_true rfl, Nat.le_of_ble_eq_true rfl⟩) (rr_preV hKK (hP.sub [0, 1, 2, 3, 4, 5, 6, 7, 8, 23, 24, 25] rfl) rfl rfl) rfl rfl hl.1 rfl (lv_room (Nat.le_of_ble_eq_true rfl)) dL_law_996 ⟨Nat.le_of_ble_eq_true rfl, Nat.le_of_ble_eq_true rfl⟩) ?_
      refine lv_aload_n hx hb dL_law_999 rfl (lv_at hl 2 rfl) ?_
      refine la_arg hx hb hX hbl hbA hS hl hL e1 (by omega) dL_law_1000 dL_law_1001 dL_law_1002 (by decide) dL_law_1003 dL_law_1004 ?_
      refine la_arg hx hb hX hbl hbA hS hl hL e2 (by omega) dL_law_1005 dL_law_1006 dL_law_1007 (by decide) dL_law_1008 dL_law_1009 ?_
      refine la_arg hx hb hX hbl hbA hS hl hL e3 (by omega) dL_law_1010 dL_law_1011 dL_law_1012 (by decide) dL_law_1013 dL_law_1014 ?_
      refine la_arg hx hb hX hbl hbA hS hl hL e4 (by omega) dL_law_1015 dL_law_1016 dL_law_1017 (by decide) dL_law_1018 dL_law_1019 ?_
      refine rr_callR (va_runV (As := [.int (nI sh), .int v2, .int v3, .int v4]) (rest := [.int (refI (Th sh) (Ln sh) (Sz sh) v2 v3 (nI (Bw 0)))]) ⟨hx, hb, hml, hown, hts⟩ (c_X5_rubbed_r l dC dI cI cJ cS (xa 32) (xa 33) (xa 34) (xa 35) (xa 36) (xa 37) (xa 38) (xa 39) (xa 40) im tn at0 st0 nu rm rh Bw Th Ln Sz It sh v2 v3 v4 (hm) (hz) (hl3) (hs4) (hwl) (hu) (href)) (cwV 4 hts gL_law_X5_rubbed rfl rfl rfl (by decide +kernel) ⟨Nat.le_of_ble_eq_true rfl, Nat.le_of_ble_eq_true rfl⟩) (rr_preV hKK (hP.sub [32, 33, 35, 36, 37] rfl) rfl rfl) rfl rfl hl.1 rfl (lv_room (Nat.le_of_ble_eq_true rfl)) dL_law_1020 ⟨Nat.le_of_ble_eq_true rfl, Nat.le_of_ble_eq_true rfl⟩) ?_
      refine lv_icmp_eq (tgt := 1356) hx hb dL_law_1023 (by decide) (fun _ => ?_) (fun c9 => absurd (rfl) c9)
      exact hk _ _ _ (LI_mk (Rw := Rw) (hpm) (⟨rfl, rfl, rfl, rfl⟩) (⟨rfl, rfl, rfl, rfl⟩) (⟨rfl, rfl, rfl, rfl⟩) (⟨rfl, rfl, rfl, rfl⟩) (nRl.rf q) (hkr) (ht) (hsr) hP hD hS hl)
set_option maxHeartbeats 4000000 in
set_option maxRecDepth 100000 in
theorem lc_seen (C0 : lwC p s m meth c b L xs dC dI cI cJ cS A aK aV) (hi : i + 6 ≤ L) (hk : ∀ (H : Heap) (locs : List Loc) (ls : Array Slot), LI dC dI cI cJ cS A s.heap xa sd sq b i H locs ls → W p l e room_1 s m #[Value.ref b] below meth c H locs 100 2000 (lw_Z below #[Value.ref b] s) (F0 m 1356 ls [])) (hI : LI dC dI cI cJ cS A s.heap xa sd sq b i H locs ls) : W p l e room_1 s m #[Value.ref b] below meth c H locs 100 2000 (lw_Z below #[Value.ref b] s) (F0 m 1028 ls []) := by
  obtain ⟨hx, hb, hr, hml, hown, hts, hX, hbl, hlocks, hKK, hZ, hA, hbA, hL⟩ := C0
  obtain ⟨im, _, _, _, _, _, _, nx, kf, wf, sf, Rr, Pr, Pd, tn, tp, n2, h2, rg2, sp2, Tp, Kq, Wq, sf2, n1, h1, rg1, sp1, dr1, kn1, nx1, kf1, wf1, sf1, R1, P1, D1, Th, Ln, Sz, Rw, at0, st0, nu, rm, rh, Bw, It, Rs, Rd, Hl, ⟨rfl, rfl, rfl, rfl, rfl, rfl, q⟩, hkr, ht, hsr, hP, hD, hS, hl⟩ := hI
  have hm : mOk Bw := q.1
  have ok : wOk (Bw 0) (kdB Bw) (wdB Bw) := hm.1
  have fk : isA (Bw 0) kf (kdB Bw) := q.2.1
  have fw : isA (Bw 0) wf (wdB Bw) := q.2.2.1
  obtain ⟨Sh, fs, hSo⟩ := q.2.2.2.1
  have hre : reR (Bw 0) Rr Bw := q.2.2.2.2.1
  have hnx : nx < 8 := q.2.2.2.2.2.1
  have hSs : ∀ j, j < Bw 0 → Sh j < spB Bw := fun j hj => (hSo j hj).1
  have hsp : spB Bw ≤ 47045881 := (spB_b hm).2
  have hsp0 : 0 < spB Bw := (spB_b hm).1
  have hrg : rgB Bw < 2 ^ 31 := by have := (rgB_b hm).2; omega
  have hR : rOk (Bw 0) (wdB Bw) Rr := q.ro
  have hkn : Bw 39 ≤ 8 := hm.2.2.2.1
  have hh : Bw 1 ≤ Bw 0 := hm.2.1
  have h6 : Bw 0 ≤ 6 := hm.n
  obtain ⟨hz, hl3, hit⟩ := id hsr
  obtain ⟨v1, e1⟩ : ∃ v, xs (i + 1) = v := ⟨_, rfl⟩
  obtain ⟨v2, e2⟩ : ∃ v, xs (i + 2) = v := ⟨_, rfl⟩
  obtain ⟨v3, e3⟩ : ∃ v, xs (i + 3) = v := ⟨_, rfl⟩
  obtain ⟨v4, e4⟩ : ∃ v, xs (i + 4) = v := ⟨_, rfl⟩
  obtain ⟨v5, e5⟩ : ∃ v, xs (i + 5) = v := ⟨_, rfl⟩
  refine lv_aload_n hx hb dL_law_1028 rfl (lv_at hl 1 rfl) ?_
  refine la_arg hx hb hX hbl hbA hS hl hL e1 (by omega) dL_law_1029 dL_law_1030 dL_law_1031 (by decide) dL_law_1032 dL_law_1033 ?_
  refine la_arg hx hb hX hbl hbA hS hl hL e2 (by omega) dL_law_1034 dL_law_1035 dL_law_1036 (by decide) dL_law_1037 dL_law_1038 ?_
  refine la_arg hx hb hX hbl hbA hS hl hL e3 (by omega) dL_law_1039 dL_law_1040 dL_law_1041 (by decide) dL_law_1042 dL_law_1043 ?_
  refine la_arg hx hb hX hbl hbA hS hl hL e4 (by omega) dL_law_1044 dL_law_1045 dL_law_1046 (by decide) dL_law_1047 dL_law_1048 ?_
  refine la_arg hx hb hX hbl hbA hS hl hL e5 (by omega) dL_law_1049 dL_law_1050 dL_law_1051 (by decide) dL_law_1052 dL_law_1053 ?_
  by_cases hbad : (inb v1 (Bw 0) && inb v2 4 && inb v3 4 && inL v5.toInt64 1 8) = false
  · skip
    refine rr_callR (va_runV (As := [.int v1, .int v2, .int v3, .int v4, .int v5]) (rest := []) ⟨hx, hb, hml, hown, hts⟩ (c_X4_seen_b l dC dI cI cJ cS (xa 0) (xa 9) (xa 15) (xa 23) im (xa 1) (xa 2) (xa 3) (xa 4) (xa 5) (xa 6) (xa 7) (xa 8) (Bw 0) (Bw 1) (rgB Bw) (spB Bw) (Bw 14) (Bw 39) nx kf wf sf (kdB Bw) (wdB Bw) Sh Rr Pr Pd v1 v2 v3 v4 v5 (ok) (hbad)) (cwV 5 hts gL_law_X4_seen rfl rfl rfl (by decide +kernel) ⟨Nat.le_of_ble_eq_true rfl, Nat.le_of_ble_eq_true rfl⟩) (rr_preV hKK (hP.sub [0, 1, 2, 3, 4, 5, 6, 7, 8] rfl) rfl rfl) rfl rfl hl.1 rfl (lv_room (Nat.le_of_ble_eq_true rfl)) dL_law_1054 ⟨Nat.le_of_ble_eq_true rfl, Nat.le_of_ble_eq_true rfl⟩) ?_
    refine lv_aload_n hx hb dL_law_1057 rfl (lv_at hl 2 rfl) ?_
    refine la_arg hx hb hX hbl hbA hS hl hL e1 (by omega) dL_law_1058 dL_law_1059 dL_law_1060 (by decide) dL_law_1061 dL_law_1062 ?_
    refine la_arg hx hb hX hbl hbA hS hl hL e2 (by omega) dL_law_1063 dL_law_1064 dL_law_1065 (by decide) dL_law_1066 dL_law_1067 ?_
    refine la_arg hx hb hX hbl hbA hS hl hL e3 (by omega) dL_law_1068 dL_law_1069 dL_law_1070 (by decide) dL_law_1071 dL_law_1072 ?_
    refine la_arg hx hb hX hbl hbA hS hl hL e4 (by omega) dL_law_1073 dL_law_1074 dL_law_1075 (by decide) dL_law_1076 dL_law_1077 ?_
    refine la_arg hx hb hX hbl hbA hS hl hL e5 (by omega) dL_law_1078 dL_law_1079 dL_law_1080 (by decide) dL_law_1081 dL_law_1082 ?_
    refine rr_callR (va_runV (As := [.int v1, .int v2, .int v3, .int v4, .int v5]) (rest := [.int (-1)]) ⟨hx, hb, hml, hown, hts⟩ (c_X5_seen_b l dC dI cI cJ cS (xa 32) (xa 33) (xa 34) (xa 35) (xa 36) (xa 37) (xa 38) (xa 39) (xa 40) im tn at0 st0 nu rm rh Bw v1 v2 v3 v4 v5 (hm) (hbad)) (cwV 5 hts gL_law_X5_seen rfl rfl rfl (by decide +kernel) ⟨Nat.le_of_ble_eq_true rfl, Nat.le_of_ble_eq_true rfl⟩) (rr_preV hKK (hP.sub [32, 33] rfl) rfl rfl) rfl rfl hl.1 rfl (lv_room (Nat.le_of_ble_eq_true rfl)) dL_law_1083 ⟨Nat.le_of_ble_eq_true rfl, Nat.le_of_ble_eq_true rfl⟩) ?_
    refine lv_icmp_eq (tgt := 1356) hx hb dL_law_1086 (by decide) (fun _ => ?_) (fun c9 => absurd (rfl) c9)
    exact hk _ _ _ (LI_mk0 (nRl.rf q) (hkr) (ht) (hsr) hP hD hS hl)
  · simp only [Bool.not_eq_false, Bool.and_eq_true] at hbad
    obtain ⟨k, hk2, rfl⟩ := inb_of (by omega) hbad.1.1.1
    obtain ⟨sh, hs4, rfl⟩ := inb_of (by decide) hbad.1.1.2
    have hwl := hbad.1.2
    obtain ⟨t, ht1, ht8, rfl⟩ := inL_of (a := 1) (z := 8) (by decide) (by decide) hbad.2
    obtain ⟨i1, i2, i3, hpm, m1, m2, m3⟩ := pm1 hs4
    replace hP := pm_P hpm hP
    replace hD := pm_D hpm hD
    by_cases href : refI (Th sh) (Ln sh) (Sz sh) v3 v4 (nI (3 * t)) = nI 0
    · obtain ⟨a, rfl, ha3⟩ := ref_at href (hz sh hs4) (by omega)
      have has : a + 3 * t ≤ 24 := Nat.le_trans ha3 (hz sh hs4)
      refine rr_callR (va_runV (As := [.int (nI k), .int (nI sh), .int v3, .int (nI a), .int (nI t)]) (rest := []) ⟨hx, hb, hml, hown, hts⟩ (c_X4_seen_g l dC dI cI cJ cS (xa 0) (xa 9) (xa 15) (xa 23) im (xa 1) (xa 2) (xa 3) (xa 4) (xa 5) (xa 6) (xa 7) (xa 8) (Bw 0) (Bw 1) (rgB Bw) (spB Bw) (Bw 14) (Bw 39) nx kf wf sf (kdB Bw) (wdB Bw) Sh Rr Pr Pd sd sq sh (Th sh) (Ln sh) (Sz sh) (Rw sh) v3 k a t (ok) (fw) (hs4) (hz sh hs4) (hwl) (hk2) (ht1) (ht8) (href) (has)) (cwV 5 hts gL_law_X4_seen rfl rfl rfl (by decide +kernel) ⟨Nat.le_of_ble_eq_true rfl, Nat.le_of_ble_eq_true rfl⟩) (rr_preV hKK (hP.sub [0, 1, 2, 3, 4, 5, 6, 7, 8, 23, 24, 25] rfl) rfl rfl) rfl rfl hl.1 rfl (lv_room (Nat.le_of_ble_eq_true rfl)) dL_law_1054 ⟨Nat.le_of_ble_eq_true rfl, Nat.le_of_ble_eq_true rfl⟩) ?_
      refine lv_aload_n hx hb dL_law_1057 rfl (lv_at hl 2 rfl) ?_
      refine la_arg hx hb hX hbl hbA hS hl hL e1 (by omega) dL_law_1058 dL_law_1059 dL_law_1060 (by decide) dL_law_1061 dL_law_1062 ?_
      refine la_arg hx hb hX hbl hbA hS hl hL e2 (by omega) dL_law_1063 dL_law_1064 dL_law_1065 (by decide) dL_law_1066 dL_law_1067 ?_
      refine la_arg hx hb hX hbl hbA hS hl hL e3 (by omega) dL_law_1068 dL_law_1069 dL_law_1070 (by decide) dL_law_1071 dL_law_1072 ?_
      refine la_arg hx hb hX hbl hbA hS hl hL e4 (by omega) dL_law_1073 dL_law_1074 dL_law_1075 (by decide) dL_law_1076 dL_law_1077 ?_
      refine la_arg hx hb hX hbl hbA hS hl hL e5 (by omega) dL_law_1078 dL_law_1079 dL_law_1080 (by decide) dL_law_1081 dL_law_1082 ?_
      refine rr_callR (va_runV (As := [.int (nI k), .int (nI sh), .int v3, .int (nI a), .int (nI t)]) (rest := [.int (nI (orS (fun kd => skB kd ((wdB Bw) k) (Rw sh) a t) 5))]) ⟨hx, hb, hml, hown, hts⟩ (c_X5_seen_g l dC dI cI cJ cS (xa 32) (xa 33) (xa 34) (xa 35) (xa 36) (xa 37) (xa 38) (xa 39) (xa 40) im tn at0 st0 nu rm rh Bw Th Ln Sz It k sh a t v3 (hm) (hz) (hl3) (hs4) (hk2) (hwl) (ht1) (ht8) (href) (has)) (cwV 5 hts gL_law_X5_seen rfl rfl rfl (by decide +kernel) ⟨Nat.le_of_ble_eq_true rfl, Nat.le_of_ble_eq_true rfl⟩) (rr_preV hKK (hP.sub [32, 33, 35, 36, 37] rfl) rfl rfl) rfl rfl hl.1 rfl (lv_room (Nat.le_of_ble_eq_true rfl)) dL_law_1083 ⟨Nat.le_of_ble_eq_true rfl, Nat.le_of_ble_eq_true rfl⟩) ?_
      refine lv_icmp_eq (tgt := 1356) hx hb dL_law_1086 (by decide) (fun _ => ?_) (fun c9 => absurd (congrArg nI (orS_cg (fun kd _ => skB_cg (fun j hj => (hit sh (a + j) hs4 (by omega)).trans (congrArg It (by omega)))))) c9)
      exact hk _ _ _ (LI_mk (Rw := Rw) (hpm) (⟨rfl, rfl, rfl, rfl⟩) (⟨rfl, rfl, rfl, rfl⟩) (⟨rfl, rfl, rfl, rfl⟩) (⟨rfl, rfl, rfl, rfl⟩) (nRl.rf q) (hkr) (ht) (hsr) hP hD hS hl)
    · skip
      refine rr_callR (va_runV (As := [.int (nI k), .int (nI sh), .int v3, .int v4, .int (nI t)]) (rest := []) ⟨hx, hb, hml, hown, hts⟩ (c_X4_seen_r l dC dI cI cJ cS (xa 0) (xa 9) (xa 15) (xa 23) im (xa 1) (xa 2) (xa 3) (xa 4) (xa 5) (xa 6) (xa 7) (xa 8) (Bw 0) (Bw 1) (rgB Bw) (spB Bw) (Bw 14) (Bw 39) nx kf wf sf (kdB Bw) (wdB Bw) Sh Rr Pr Pd sd sq sh (Th sh) (Ln sh) (Sz sh) (Rw sh) v3 v4 k t (ok) (fw) (hs4) (hz sh hs4) (hwl) (hk2) (ht1) (ht8) (href)) (cwV 5 hts gL_law_X4_seen rfl rfl rfl (by decide +kernel) ⟨Nat.le_of_ble_eq_true rfl, Nat.le_of_ble_eq_true rfl⟩) (rr_preV hKK (hP.sub [0, 1, 2, 3, 4, 5, 6, 7, 8, 23, 24, 25] rfl) rfl rfl) rfl rfl hl.1 rfl (lv_room (Nat.le_of_ble_eq_true rfl)) dL_law_1054 ⟨Nat.le_of_ble_eq_true rfl, Nat.le_of_ble_eq_true rfl⟩) ?_
      refine lv_aload_n hx hb dL_law_1057 rfl (lv_at hl 2 rfl) ?_
      refine la_arg hx hb hX hbl hbA hS hl hL e1 (by omega) dL_law_1058 dL_law_1059 dL_law_1060 (by decide) dL_law_1061 dL_law_1062 ?_
      refine la_arg hx hb hX hbl hbA hS hl hL e2 (by omega) dL_law_1063 dL_law_1064 dL_law_1065 (by decide) dL_law_1066 dL_law_1067 ?_
      refine la_arg hx hb hX hbl hbA hS hl hL e3 (by omega) dL_law_1068 dL_law_1069 dL_law_1070 (by decide) dL_law_1071 dL_law_1072 ?_
      refine la_arg hx hb hX hbl hbA hS hl hL e4 (by omega) dL_law_1073 dL_law_1074 dL_law_1075 (by decide) dL_law_1076 dL_law_1077 ?_
      refine la_arg hx hb hX hbl hbA hS hl hL e5 (by omega) dL_law_1078 dL_law_1079 dL_law_1080 (by decide) dL_law_1081 dL_law_1082 ?_
      refine rr_callR (va_runV (As := [.int (nI k), .int (nI sh), .int v3, .int v4, .int (nI t)]) (rest := [.int (refI (Th sh) (Ln sh) (Sz sh) v3 v4 (nI (3 * t)))]) ⟨hx, hb, hml, hown, hts⟩ (c_X5_seen_r l dC dI cI cJ cS (xa 32) (xa 33) (xa 34) (xa 35) (xa 36) (xa 37) (xa 38) (xa 39) (xa 40) im tn at0 st0 nu rm rh Bw Th Ln Sz It k sh t v3 v4 (hm) (hz) (hl3) (hs4) (hk2) (hwl) (ht1) (ht8) (href)) (cwV 5 hts gL_law_X5_seen rfl rfl rfl (by decide +kernel) ⟨Nat.le_of_ble_eq_true rfl, Nat.le_of_ble_eq_true rfl⟩) (rr_preV hKK (hP.sub [32, 33, 35, 36, 37] rfl) rfl rfl) rfl rfl hl.1 rfl (lv_room (Nat.le_of_ble_eq_true rfl)) dL_law_1083 ⟨Nat.le_of_ble_eq_true rfl, Nat.le_of_ble_eq_true rfl⟩) ?_
      refine lv_icmp_eq (tgt := 1356) hx hb dL_law_1086 (by decide) (fun _ => ?_) (fun c9 => absurd (rfl) c9)
      exact hk _ _ _ (LI_mk (Rw := Rw) (hpm) (⟨rfl, rfl, rfl, rfl⟩) (⟨rfl, rfl, rfl, rfl⟩) (⟨rfl, rfl, rfl, rfl⟩) (⟨rfl, rfl, rfl, rfl⟩) (nRl.rf q) (hkr) (ht) (hsr) hP hD hS hl)
set_option maxHeartbeats 4000000 in
set_option maxRecDepth 100000 in
theorem lc_film (C0 : lwC p s m meth c b L xs dC dI cI cJ cS A aK aV) (hi : i + 6 ≤ L) (hk : ∀ (H : Heap) (locs : List Loc) (ls : Array Slot), LI dC dI cI cJ cS A s.heap xa sd sq b i H locs ls → W p l e room_1 s m #[Value.ref b] below meth c H locs 100 2000 (lw_Z below #[Value.ref b] s) (F0 m 1356 ls [])) (hI : LI dC dI cI cJ cS A s.heap xa sd sq b i H locs ls) : W p l e room_1 s m #[Value.ref b] below meth c H locs 100 2000 (lw_Z below #[Value.ref b] s) (F0 m 1091 ls []) := by
  obtain ⟨hx, hb, hr, hml, hown, hts, hX, hbl, hlocks, hKK, hZ, hA, hbA, hL⟩ := C0
  obtain ⟨im, _, _, _, _, _, _, nx, kf, wf, sf, Rr, Pr, Pd, tn, tp, n2, h2, rg2, sp2, Tp, Kq, Wq, sf2, n1, h1, rg1, sp1, dr1, kn1, nx1, kf1, wf1, sf1, R1, P1, D1, Th, Ln, Sz, Rw, at0, st0, nu, rm, rh, Bw, It, Rs, Rd, Hl, ⟨rfl, rfl, rfl, rfl, rfl, rfl, q⟩, hkr, ht, hsr, hP, hD, hS, hl⟩ := hI
  have hm : mOk Bw := q.1
  have ok : wOk (Bw 0) (kdB Bw) (wdB Bw) := hm.1
  have fk : isA (Bw 0) kf (kdB Bw) := q.2.1
  have fw : isA (Bw 0) wf (wdB Bw) := q.2.2.1
  obtain ⟨Sh, fs, hSo⟩ := q.2.2.2.1
  have hre : reR (Bw 0) Rr Bw := q.2.2.2.2.1
  have hnx : nx < 8 := q.2.2.2.2.2.1
  have hSs : ∀ j, j < Bw 0 → Sh j < spB Bw := fun j hj => (hSo j hj).1
  have hsp : spB Bw ≤ 47045881 := (spB_b hm).2
  have hsp0 : 0 < spB Bw := (spB_b hm).1
  have hrg : rgB Bw < 2 ^ 31 := by have := (rgB_b hm).2; omega
  have hR : rOk (Bw 0) (wdB Bw) Rr := q.ro
  have hkn : Bw 39 ≤ 8 := hm.2.2.2.1
  have hh : Bw 1 ≤ Bw 0 := hm.2.1
  have h6 : Bw 0 ≤ 6 := hm.n
  obtain ⟨hz, hl3, hit⟩ := id hsr
  obtain ⟨v1, e1⟩ : ∃ v, xs (i + 1) = v := ⟨_, rfl⟩
  obtain ⟨v2, e2⟩ : ∃ v, xs (i + 2) = v := ⟨_, rfl⟩
  obtain ⟨v3, e3⟩ : ∃ v, xs (i + 3) = v := ⟨_, rfl⟩
  obtain ⟨v4, e4⟩ : ∃ v, xs (i + 4) = v := ⟨_, rfl⟩
  refine lv_aload_n hx hb dL_law_1091 rfl (lv_at hl 1 rfl) ?_
  refine la_arg hx hb hX hbl hbA hS hl hL e1 (by omega) dL_law_1092 dL_law_1093 dL_law_1094 (by decide) dL_law_1095 dL_law_1096 ?_
  refine la_arg hx hb hX hbl hbA hS hl hL e2 (by omega) dL_law_1097 dL_law_1098 dL_law_1099 (by decide) dL_law_1100 dL_law_1101 ?_
  refine la_arg hx hb hX hbl hbA hS hl hL e3 (by omega) dL_law_1102 dL_law_1103 dL_law_1104 (by decide) dL_law_1105 dL_law_1106 ?_
  refine la_arg hx hb hX hbl hbA hS hl hL e4 (by omega) dL_law_1107 dL_law_1108 dL_law_1109 (by decide) dL_law_1110 dL_law_1111 ?_
  by_cases hbad : (inb v1 4 && inb v2 4 && inb v3 4) = false
  · skip
    refine rr_callR (va_runV (As := [.int v1, .int v2, .int v3, .int v4]) (rest := []) ⟨hx, hb, hml, hown, hts⟩ (c_X4_film_b l dC dI cI cJ cS (xa 0) (xa 9) (xa 15) (xa 23) im (xa 1) (xa 2) (xa 3) (xa 4) (xa 5) (xa 6) (xa 7) (xa 8) (Bw 0) (Bw 1) (rgB Bw) (spB Bw) (Bw 14) (Bw 39) nx kf wf sf (kdB Bw) (wdB Bw) Sh Rr Pr Pd v1 v2 v3 v4 (hbad)) (cwV 4 hts gL_law_X4_film rfl rfl rfl (by decide +kernel) ⟨Nat.le_of_ble_eq_true rfl, Nat.le_of_ble_eq_true rfl⟩) (rr_preV hKK (hP.sub [0, 1, 2, 3, 4, 5, 6, 7, 8] rfl) rfl rfl) rfl rfl hl.1 rfl (lv_room (Nat.le_of_ble_eq_true rfl)) dL_law_1112 ⟨Nat.le_of_ble_eq_true rfl, Nat.le_of_ble_eq_true rfl⟩) ?_
    refine lv_aload_n hx hb dL_law_1115 rfl (lv_at hl 2 rfl) ?_
    refine la_arg hx hb hX hbl hbA hS hl hL e1 (by omega) dL_law_1116 dL_law_1117 dL_law_1118 (by decide) dL_law_1119 dL_law_1120 ?_
    refine la_arg hx hb hX hbl hbA hS hl hL e2 (by omega) dL_law_1121 dL_law_1122 dL_law_1123 (by decide) dL_law_1124 dL_law_1125 ?_
    refine la_arg hx hb hX hbl hbA hS hl hL e3 (by omega) dL_law_1126 dL_law_1127 dL_law_1128 (by decide) dL_law_1129 dL_law_1130 ?_
    refine la_arg hx hb hX hbl hbA hS hl hL e4 (by omega) dL_law_1131 dL_law_1132 dL_law_1133 (by decide) dL_law_1134 dL_law_1135 ?_
    refine rr_callR (va_runV (As := [.int v1, .int v2, .int v3, .int v4]) (rest := [.int (-1)]) ⟨hx, hb, hml, hown, hts⟩ (c_X5_film_b l dC dI cI cJ cS (xa 32) (xa 33) (xa 34) (xa 35) (xa 36) (xa 37) (xa 38) (xa 39) (xa 40) im tn at0 st0 nu rm rh Bw v1 v2 v3 v4 (hm) (hbad)) (cwV 4 hts gL_law_X5_film rfl rfl rfl (by decide +kernel) ⟨Nat.le_of_ble_eq_true rfl, Nat.le_of_ble_eq_true rfl⟩) (rr_preV hKK (hP.sub [32, 33] rfl) rfl rfl) rfl rfl hl.1 rfl (lv_room (Nat.le_of_ble_eq_true rfl)) dL_law_1136 ⟨Nat.le_of_ble_eq_true rfl, Nat.le_of_ble_eq_true rfl⟩) ?_
    refine lv_icmp_eq (tgt := 1356) hx hb dL_law_1139 (by decide) (fun _ => ?_) (fun c9 => absurd (rfl) c9)
    exact hk _ _ _ (LI_mk0 (nRl.rf q) (hkr) (ht) (hsr) hP hD hS hl)
  · simp only [Bool.not_eq_false, Bool.and_eq_true] at hbad
    obtain ⟨r, hr4, rfl⟩ := inb_of (by decide) hbad.1.1
    obtain ⟨sh, hs4, rfl⟩ := inb_of (by decide) hbad.1.2
    have hwl := hbad.2
    obtain ⟨i1, i2, i3, hpm, m1, m2, m3⟩ := pm1 hs4
    replace hP := pm_P hpm hP
    replace hD := pm_D hpm hD
    by_cases href : refI (Th sh) (Ln sh) (Sz sh) v3 v4 (nI (Bw 0)) = nI 0
    · obtain ⟨a, rfl, ha3⟩ := ref_at href (hz sh hs4) (by omega)
      have has : a + Bw 0 ≤ 24 := Nat.le_trans ha3 (hz sh hs4)
      refine lq_calli (va_runV (As := [.int (nI r), .int (nI sh), .int v3, .int (nI a)]) (rest := []) ⟨hx, hb, hml, hown, hts⟩ (c_X4_film_g l dC dI cI cJ cS _ (xa 0) (xa 9) (xa 15) (xa 23) im (xa 1) (xa 2) (xa 3) (xa 4) (xa 5) (xa 6) (xa 7) (xa 8) (Bw 0) (Bw 1) (rgB Bw) (spB Bw) (Bw 14) (Bw 39) nx kf wf sf (kdB Bw) (wdB Bw) Sh Rr Pr Pd sd sq sh (Th sh) (Ln sh) (Sz sh) (Rw sh) v3 r a (ok) (hs4) (hz sh hs4) (hr4) (hwl) (href) (has)) (cwV 4 hts gL_law_X4_film rfl rfl rfl (by decide +kernel) ⟨Nat.le_of_ble_eq_true rfl, Nat.le_of_ble_eq_true rfl⟩) (rw_preV hKK (hP.sub [0, 1, 2, 3, 4, 5, 6, 7, 8, 23, 24, 25] rfl) (hD.sub [0, 1, 2, 3, 4, 5, 6, 7, 8, 23, 24, 25] (by decide) rfl) rfl rfl) rfl rfl hl.1 rfl (lv_room (Nat.le_of_ble_eq_true rfl)) dL_law_1112 ⟨Nat.le_of_ble_eq_true rfl, Nat.le_of_ble_eq_true rfl⟩) hP hD hS hA [0, 1, 2, 3, 4, 5, 6, 7, 8, 23, 24, 25] [9, 10, 11, 12, 13, 14, 15, 16, 17, 18, 19, 20, 21, 22, 26, 27, 28, 29, 30, 31, 32, 33, 34, 35, 36, 37, 38, 39, 40] rfl rfl (by decide) (by decide) [29, 30, 31, 32, 33, 34, 35, 36, 37, 0, 1, 2, 3, 4, 5, 6, 7, 8, 9, 10, 11, 12, 13, 38, 39, 40, 14, 15, 16, 17, 18, 19, 20, 21, 22, 23, 24, 25, 26, 27, 28] (lawW cI cJ cS xa sd sq im (Bw 0) (Bw 1) (rgB Bw) (spB Bw) (Bw 14) (Bw 39) nx kf wf sf Rr Pr Pd tn tp n2 h2 rg2 sp2 Tp Kq Wq sf2 n1 h1 rg1 sp1 dr1 kn1 nx1 kf1 wf1 sf1 R1 P1 D1 sh (Th sh) (Ln sh) (Sz sh) (flI (Rw sh) a (fun k => (nI (Rr (r * 6 + k))).toInt64) (Bw 0)) i1 (Th i1) (Ln i1) (Sz i1) (Rw i1) i2 (Th i2) (Ln i2) (Sz i2) (Rw i2) i3 (Th i3) (Ln i3) (Sz i3) (Rw i3) im tn at0 st0 nu rm rh Bw Tp (laF Th Ln) Sz It Rs Rd Hl) (by decide) rfl (fun H locs hP hD hS => ?_)
      refine lv_aload_n hx hb dL_law_1115 rfl (lv_at hl 2 rfl) ?_
      refine la_arg hx hb hX hbl hbA hS hl hL e1 (by omega) dL_law_1116 dL_law_1117 dL_law_1118 (by decide) dL_law_1119 dL_law_1120 ?_
      refine la_arg hx hb hX hbl hbA hS hl hL e2 (by omega) dL_law_1121 dL_law_1122 dL_law_1123 (by decide) dL_law_1124 dL_law_1125 ?_
      refine la_arg hx hb hX hbl hbA hS hl hL e3 (by omega) dL_law_1126 dL_law_1127 dL_law_1128 (by decide) dL_law_1129 dL_law_1130 ?_
      refine la_arg hx hb hX hbl hbA hS hl hL e4 (by omega) dL_law_1131 dL_law_1132 dL_law_1133 (by decide) dL_law_1134 dL_law_1135 ?_
      refine lq_calli (va_runV (As := [.int (nI r), .int (nI sh), .int v3, .int (nI a)]) (rest := [.int (nI (Bw 0))]) ⟨hx, hb, hml, hown, hts⟩ (c_X5_film_g l dC dI cI cJ cS _ (xa 32) (xa 33) (xa 34) (xa 35) (xa 36) (xa 37) (xa 38) (xa 39) (xa 40) im tn at0 st0 nu rm rh Bw Th Ln Sz It r sh a v3 (hm) (hz) (hl3) (hr4) (hs4) (hwl) (href) (has)) (cwV 4 hts gL_law_X5_film rfl rfl rfl (by decide +kernel) ⟨Nat.le_of_ble_eq_true rfl, Nat.le_of_ble_eq_true rfl⟩) (rw_preV hKK (hP.sub [32, 33, 35, 36, 37] rfl) (hD.sub [32, 33, 35, 36, 37] (by decide) rfl) rfl rfl) rfl rfl hl.1 rfl (lv_room (Nat.le_of_ble_eq_true rfl)) dL_law_1136 ⟨Nat.le_of_ble_eq_true rfl, Nat.le_of_ble_eq_true rfl⟩) hP hD hS hA [32, 33, 35, 36, 37] [0, 1, 2, 3, 4, 5, 6, 7, 8, 9, 10, 11, 12, 13, 14, 15, 16, 17, 18, 19, 20, 21, 22, 23, 24, 25, 26, 27, 28, 29, 30, 31, 34, 38, 39, 40] rfl rfl (by decide) (by decide) [0, 1, 2, 3, 4, 5, 6, 7, 8, 9, 10, 11, 12, 13, 14, 15, 16, 17, 18, 19, 20, 21, 22, 23, 24, 25, 26, 27, 28, 29, 30, 31, 36, 37, 32, 38, 39, 40, 33, 34, 35] (lawW cI cJ cS xa sd sq im (Bw 0) (Bw 1) (rgB Bw) (spB Bw) (Bw 14) (Bw 39) nx kf wf sf Rr Pr Pd tn tp n2 h2 rg2 sp2 Tp Kq Wq sf2 n1 h1 rg1 sp1 dr1 kn1 nx1 kf1 wf1 sf1 R1 P1 D1 sh (Th sh) (Ln sh) (Sz sh) (flI (Rw sh) a (fun k => (nI (Rr (r * 6 + k))).toInt64) (Bw 0)) i1 (Th i1) (Ln i1) (Sz i1) (Rw i1) i2 (Th i2) (Ln i2) (Sz i2) (Rw i2) i3 (Th i3) (Ln i3) (Sz i3) (Rw i3) im tn at0 st0 nu rm rh Bw Tp (laF Th Ln) Sz (flI It (24 * sh + a) (fun k => (nI (rsB Bw (r * 6 + k))).toInt64) (Bw 0)) Rs Rd Hl) (by decide) rfl (fun H locs hP hD hS => ?_)
      refine lv_icmp_eq (tgt := 1356) hx hb dL_law_1139 (by decide) (fun _ => ?_) (fun c9 => absurd (rfl) c9)
      exact hk _ _ _ (LI_mk (Rw := uR Rw sh (flI (Rw sh) a (fun k => (nI (Rr (r * 6 + k))).toInt64) (Bw 0))) (hpm) (⟨rfl, rfl, rfl, uR_eq.symm⟩) (⟨rfl, rfl, rfl, (uR_ne m1).symm⟩) (⟨rfl, rfl, rfl, (uR_ne m2).symm⟩) (⟨rfl, rfl, rfl, (uR_ne m3).symm⟩) (nRl.rf q) (hkr) (ht) (shR.row hsr hs4 (fun k hk => fl_row (fun k hk => hit sh k hs4 hk) (fun j hj => by rw [hre r j hr4 hj]) hk) (fun j hj => flI_out (by omega))) hP hD hS hl)
    · skip
      refine rr_callR (va_runV (As := [.int (nI r), .int (nI sh), .int v3, .int v4]) (rest := []) ⟨hx, hb, hml, hown, hts⟩ (c_X4_film_r l dC dI cI cJ cS (xa 0) (xa 9) (xa 15) (xa 23) im (xa 1) (xa 2) (xa 3) (xa 4) (xa 5) (xa 6) (xa 7) (xa 8) (Bw 0) (Bw 1) (rgB Bw) (spB Bw) (Bw 14) (Bw 39) nx kf wf sf (kdB Bw) (wdB Bw) Sh Rr Pr Pd sd sq sh (Th sh) (Ln sh) (Sz sh) (Rw sh) v3 v4 r (ok) (hs4) (hz sh hs4) (hr4) (hwl) (href)) (cwV 4 hts gL_law_X4_film rfl rfl rfl (by decide +kernel) ⟨Nat.le_of_ble_eq_true rfl, Nat.le_of_ble_eq_true rfl⟩) (rr_preV hKK (hP.sub [0, 1, 2, 3, 4, 5, 6, 7, 8, 23, 24, 25] rfl) rfl rfl) rfl rfl hl.1 rfl (lv_room (Nat.le_of_ble_eq_true rfl)) dL_law_1112 ⟨Nat.le_of_ble_eq_true rfl, Nat.le_of_ble_eq_true rfl⟩) ?_
      refine lv_aload_n hx hb dL_law_1115 rfl (lv_at hl 2 rfl) ?_
      refine la_arg hx hb hX hbl hbA hS hl hL e1 (by omega) dL_law_1116 dL_law_1117 dL_law_1118 (by decide) dL_law_1119 dL_law_1120 ?_
      refine la_arg hx hb hX hbl hbA hS hl hL e2 (by omega) dL_law_1121 dL_law_1122 dL_law_1123 (by decide) dL_law_1124 dL_law_1125 ?_
      refine la_arg hx hb hX hbl hbA hS hl hL e3 (by omega) dL_law_1126 dL_law_1127 dL_law_1128 (by decide) dL_law_1129 dL_law_1130 ?_
      refine la_arg hx hb hX hbl hbA hS hl hL e4 (by omega) dL_law_1131 dL_law_1132 dL_law_1133 (by decide) dL_law_1134 dL_law_1135 ?_
      refine rr_callR (va_runV (As := [.int (nI r), .int (nI sh), .int v3, .int v4]) (rest := [.int (refI (Th sh) (Ln sh) (Sz sh) v3 v4 (nI (Bw 0)))]) ⟨hx, hb, hml, hown, hts⟩ (c_X5_film_r l dC dI cI cJ cS (xa 32) (xa 33) (xa 34) (xa 35) (xa 36) (xa 37) (xa 38) (xa 39) (xa 40) im tn at0 st0 nu rm rh Bw Th Ln Sz It r sh v3 v4 (hm) (hz) (hl3) (hr4) (hs4) (hwl) (href)) (cwV 4 hts gL_law_X5_film rfl rfl rfl (by decide +kernel) ⟨Nat.le_of_ble_eq_true rfl, Nat.le_of_ble_eq_true rfl⟩) (rr_preV hKK (hP.sub [32, 33, 35, 36, 37] rfl) rfl rfl) rfl rfl hl.1 rfl (lv_room (Nat.le_of_ble_eq_true rfl)) dL_law_1136 ⟨Nat.le_of_ble_eq_true rfl, Nat.le_of_ble_eq_true rfl⟩) ?_
      refine lv_icmp_eq (tgt := 1356) hx hb dL_law_1139 (by decide) (fun _ => ?_) (fun c9 => absurd (rfl) c9)
      exact hk _ _ _ (LI_mk (Rw := Rw) (hpm) (⟨rfl, rfl, rfl, rfl⟩) (⟨rfl, rfl, rfl, rfl⟩) (⟨rfl, rfl, rfl, rfl⟩) (⟨rfl, rfl, rfl, rfl⟩) (nRl.rf q) (hkr) (ht) (hsr) hP hD hS hl)
end LC
