section LC
variable {p : Program} {l : Launch} {e : Env} {s : State} {m : MethodId} {below : List Frame} {meth : Method} {c : Code} {b L : Nat} {xs : Nat → Int32} {dC : Nat → ClassId} {dI : Nat → Nat → Nat} {cI cJ cS : ClassId} {A : Nat → Prop} {aK aV : Nat} {xa sd sq : Nat → Nat} {i : Nat} {H : Heap} {locs : List Loc} {ls : Array Slot}
set_option maxHeartbeats 4000000 in
set_option maxRecDepth 100000 in
theorem lc_type (C0 : lwC p s m meth c b L xs dC dI cI cJ cS A aK aV) (hi : i + 6 ≤ L) (hk : ∀ (H : Heap) (locs : List Loc) (ls : Array Slot), LI dC dI cI cJ cS A s.heap xa sd sq b i H locs ls → W p l e room_1 s m #[Value.ref b] below meth c H locs 100 2000 (lw_Z below #[Value.ref b] s) (F0 m 1356 ls [])) (hI : LI dC dI cI cJ cS A s.heap xa sd sq b i H locs ls) : W p l e room_1 s m #[Value.ref b] below meth c H locs 100 2000 (lw_Z below #[Value.ref b] s) (F0 m 184 ls []) := by
  obtain ⟨hx, hb, hr, hml, hown, hts, hX, hbl, hlocks, hKK, hZ, hA, hbA, hL⟩ := C0
  obtain ⟨im, _, _, _, _, _, _, nx, kf, wf, sf, Rr, Pr, Pd, tn, tp, n2, h2, rg2, sp2, Tp, Kq, Wq, sf2, n1, h1, rg1, sp1, dr1, kn1, nx1, kf1, wf1, sf1, R1, P1, D1, Th, Ln, Sz, Rw, at0, st0, nu, rm, rh, Bw, It, Rs, Rd, Hl, ⟨rfl, rfl, rfl, rfl, rfl, rfl, q⟩, hkr, ht, hsr, hP, hD, hS, hl⟩ := hI
  have hm : mOk Bw := q.1
  have ok : wOk (Bw 0) (kdB Bw) (wdB Bw) := hm.1
  have fk : isA (Bw 0) kf (kdB Bw) := q.2.1
  have fw : isA (Bw 0) wf (wdB Bw) := q.2.2.1
  obtain ⟨Sh, fs, hSo⟩ := q.2.2.2.1
  have hre : reR (Bw 0) Rr Bw := q.2.2.2.2.1
  have hnx : nx < 8 := q.2.2.2.2.2.1
  have hSs : ∀ j, j < Bw 0 → Sh j < spB Bw := fun j hj => (hSo j hj).1
  have hsp : spB Bw ≤ 47045881 := (spB_b hm).2
  have hsp0 : 0 < spB Bw := (spB_b hm).1
  have hrg : rgB Bw < 2 ^ 31 := by have := (rgB_b hm).2; omega
  have hR : rOk (Bw 0) (wdB Bw) Rr := q.ro
  have hkn : Bw 39 ≤ 8 := hm.2.2.2.1
  have hh : Bw 1 ≤ Bw 0 := hm.2.1
  have h6 : Bw 0 ≤ 6 := hm.n
  obtain ⟨hz, hl3, hit⟩ := id hsr
  obtain ⟨v1, e1⟩ : ∃ v, xs (i + 1) = v := ⟨_, rfl⟩
  refine lv_aload_n hx hb dL_law_184 rfl (lv_at hl 1 rfl) ?_
  refine la_arg hx hb hX hbl hbA hS hl hL e1 (by omega) dL_law_185 dL_law_186 dL_law_187 (by decide) dL_law_188 dL_law_189 ?_
  by_cases hbad : ltrB v1 = false
  · skip
    refine rr_callR (va_runV (As := [.int v1]) (rest := []) ⟨hx, hb, hml, hown, hts⟩ (c_X4_type_b l dC dI cI cJ cS (xa 0) (xa 9) (xa 1) (xa 15) (xa 23) im (xa 10) (xa 11) tn tp Tp v1 (hbad)) (cwV 1 hts gL_law_X4_type rfl rfl rfl (by decide +kernel) ⟨Nat.le_of_ble_eq_true rfl, Nat.le_of_ble_eq_true rfl⟩) (rr_preV hKK (hP.sub [0, 9, 10] rfl) rfl rfl) rfl rfl hl.1 rfl (lv_room (Nat.le_of_ble_eq_true rfl)) dL_law_190 ⟨Nat.le_of_ble_eq_true rfl, Nat.le_of_ble_eq_true rfl⟩) ?_
    refine lv_aload_n hx hb dL_law_193 rfl (lv_at hl 2 rfl) ?_
    refine la_arg hx hb hX hbl hbA hS hl hL e1 (by omega) dL_law_194 dL_law_195 dL_law_196 (by decide) dL_law_197 dL_law_198 ?_
    refine rr_callR (va_runV (As := [.int v1]) (rest := [.int (-1)]) ⟨hx, hb, hml, hown, hts⟩ (c_X5_type_b l dC dI cI cJ cS (xa 32) (xa 33) (xa 34) (xa 35) (xa 36) (xa 37) (xa 38) (xa 39) (xa 40) im tn at0 st0 nu rm rh Bw v1 (hbad)) (cwV 1 hts gL_law_X5_type rfl rfl rfl (by decide +kernel) ⟨Nat.le_of_ble_eq_true rfl, Nat.le_of_ble_eq_true rfl⟩) (rr_preV hKK (hP.sub [32, 33] rfl) rfl rfl) rfl rfl hl.1 rfl (lv_room (Nat.le_of_ble_eq_true rfl)) dL_law_199 ⟨Nat.le_of_ble_eq_true rfl, Nat.le_of_ble_eq_true rfl⟩) ?_
    refine lv_icmp_eq (tgt := 1356) hx hb dL_law_202 (by decide) (fun _ => ?_) (fun c9 => absurd (rfl) c9)
    exact hk _ _ _ (LI_mk0 (nRl.rf q) (hkr) (ht) (hsr) hP hD hS hl)
  · obtain ⟨x, hx1, hx2, rfl⟩ := ltr_of hbad
    by_cases h40 : tn = 40
    · skip
      refine rr_callR (va_runV (As := [.int (nI x)]) (rest := []) ⟨hx, hb, hml, hown, hts⟩ (c_X4_type_f l dC dI cI cJ cS (xa 0) (xa 9) (xa 1) (xa 15) (xa 23) im (xa 10) (xa 11) tn tp Tp x (hx1) (hx2) (h40)) (cwV 1 hts gL_law_X4_type rfl rfl rfl (by decide +kernel) ⟨Nat.le_of_ble_eq_true rfl, Nat.le_of_ble_eq_true rfl⟩) (rr_preV hKK (hP.sub [0, 9, 10] rfl) rfl rfl) rfl rfl hl.1 rfl (lv_room (Nat.le_of_ble_eq_true rfl)) dL_law_190 ⟨Nat.le_of_ble_eq_true rfl, Nat.le_of_ble_eq_true rfl⟩) ?_
      refine lv_aload_n hx hb dL_law_193 rfl (lv_at hl 2 rfl) ?_
      refine la_arg hx hb hX hbl hbA hS hl hL e1 (by omega) dL_law_194 dL_law_195 dL_law_196 (by decide) dL_law_197 dL_law_198 ?_
      refine rr_callR (va_runV (As := [.int (nI x)]) (rest := [.int (-3)]) ⟨hx, hb, hml, hown, hts⟩ (c_X5_type_f l dC dI cI cJ cS (xa 32) (xa 33) (xa 34) (xa 35) (xa 36) (xa 37) (xa 38) (xa 39) (xa 40) im tn at0 st0 nu rm rh Tp x (hx1) (hx2) (h40)) (cwV 1 hts gL_law_X5_type rfl rfl rfl (by decide +kernel) ⟨Nat.le_of_ble_eq_true rfl, Nat.le_of_ble_eq_true rfl⟩) (rr_preV hKK (hP.sub [32, 34] rfl) rfl rfl) rfl rfl hl.1 rfl (lv_room (Nat.le_of_ble_eq_true rfl)) dL_law_199 ⟨Nat.le_of_ble_eq_true rfl, Nat.le_of_ble_eq_true rfl⟩) ?_
      refine lv_icmp_eq (tgt := 1356) hx hb dL_law_202 (by decide) (fun _ => ?_) (fun c9 => absurd (rfl) c9)
      exact hk _ _ _ (LI_mk0 (nRl.rf q) (hkr) (ht) (hsr) hP hD hS hl)
    · have h39 : tn < 40 := by have := ht.1; omega
      refine lq_calli (va_runV (As := [.int (nI x)]) (rest := []) ⟨hx, hb, hml, hown, hts⟩ (c_X4_type_g l dC dI cI cJ cS _ (xa 0) (xa 9) (xa 1) (xa 15) (xa 23) im (xa 10) (xa 11) tn tp Tp x (hx1) (hx2) (h39)) (cwV 1 hts gL_law_X4_type rfl rfl rfl (by decide +kernel) ⟨Nat.le_of_ble_eq_true rfl, Nat.le_of_ble_eq_true rfl⟩) (rw_preV hKK (hP.sub [0, 9, 10] rfl) (hD.sub [0, 9, 10] (by decide) rfl) rfl rfl) rfl rfl hl.1 rfl (lv_room (Nat.le_of_ble_eq_true rfl)) dL_law_190 ⟨Nat.le_of_ble_eq_true rfl, Nat.le_of_ble_eq_true rfl⟩) hP hD hS hA [0, 9, 10] [1, 2, 3, 4, 5, 6, 7, 8, 11, 12, 13, 14, 15, 16, 17, 18, 19, 20, 21, 22, 23, 24, 25, 26, 27, 28, 29, 30, 31, 32, 33, 34, 35, 36, 37, 38, 39, 40] rfl rfl (by decide) (by decide) [38, 0, 1, 2, 3, 4, 5, 6, 7, 39, 40, 8, 9, 10, 11, 12, 13, 14, 15, 16, 17, 18, 19, 20, 21, 22, 23, 24, 25, 26, 27, 28, 29, 30, 31, 32, 33, 34, 35, 36, 37] (lawW cI cJ cS xa sd sq im (Bw 0) (Bw 1) (rgB Bw) (spB Bw) (Bw 14) (Bw 39) nx kf wf sf Rr Pr Pd (tn + 1) tp n2 h2 rg2 sp2 (uN Tp tn x) Kq Wq sf2 n1 h1 rg1 sp1 dr1 kn1 nx1 kf1 wf1 sf1 R1 P1 D1 0 (Th 0) (Ln 0) (Sz 0) (Rw 0) 1 (Th 1) (Ln 1) (Sz 1) (Rw 1) 2 (Th 2) (Ln 2) (Sz 2) (Rw 2) 3 (Th 3) (Ln 3) (Sz 3) (Rw 3) im tn at0 st0 nu rm rh Bw Tp (laF Th Ln) Sz It Rs Rd Hl) (by decide) rfl (fun H locs hP hD hS => ?_)
      refine lv_aload_n hx hb dL_law_193 rfl (lv_at hl 2 rfl) ?_
      refine la_arg hx hb hX hbl hbA hS hl hL e1 (by omega) dL_law_194 dL_law_195 dL_law_196 (by decide) dL_law_197 dL_law_198 ?_
      refine lq_calli (va_runV (As := [.int (nI x)]) (rest := [.int (nI (tn + 1))]) ⟨hx, hb, hml, hown, hts⟩ (c_X5_type_g l dC dI cI cJ cS _ (xa 32) (xa 33) (xa 34) (xa 35) (xa 36) (xa 37) (xa 38) (xa 39) (xa 40) im tn at0 st0 nu rm rh Tp x (hx1) (hx2) (h39)) (cwV 1 hts gL_law_X5_type rfl rfl rfl (by decide +kernel) ⟨Nat.le_of_ble_eq_true rfl, Nat.le_of_ble_eq_true rfl⟩) (rw_preV hKK (hP.sub [32, 34] rfl) (hD.sub [32, 34] (by decide) rfl) rfl rfl) rfl rfl hl.1 rfl (lv_room (Nat.le_of_ble_eq_true rfl)) dL_law_199 ⟨Nat.le_of_ble_eq_true rfl, Nat.le_of_ble_eq_true rfl⟩) hP hD hS hA [32, 34] [0, 1, 2, 3, 4, 5, 6, 7, 8, 9, 10, 11, 12, 13, 14, 15, 16, 17, 18, 19, 20, 21, 22, 23, 24, 25, 26, 27, 28, 29, 30, 31, 33, 35, 36, 37, 38, 39, 40] rfl rfl (by decide) (by decide) [0, 1, 2, 3, 4, 5, 6, 7, 8, 9, 10, 11, 12, 13, 14, 15, 16, 17, 18, 19, 20, 21, 22, 23, 24, 25, 26, 27, 28, 29, 30, 31, 39, 32, 40, 33, 34, 35, 36, 37, 38] (lawW cI cJ cS xa sd sq im (Bw 0) (Bw 1) (rgB Bw) (spB Bw) (Bw 14) (Bw 39) nx kf wf sf Rr Pr Pd (tn + 1) tp n2 h2 rg2 sp2 (uN Tp tn x) Kq Wq sf2 n1 h1 rg1 sp1 dr1 kn1 nx1 kf1 wf1 sf1 R1 P1 D1 0 (Th 0) (Ln 0) (Sz 0) (Rw 0) 1 (Th 1) (Ln 1) (Sz 1) (Rw 1) 2 (Th 2) (Ln 2) (Sz 2) (Rw 2) 3 (Th 3) (Ln 3) (Sz 3) (Rw 3) im (tn + 1) at0 st0 nu rm rh Bw (uN Tp tn x) (laF Th Ln) Sz It Rs Rd Hl) (by decide) rfl (fun H locs hP hD hS => ?_)
      refine lv_icmp_eq (tgt := 1356) hx hb dL_law_202 (by decide) (fun _ => ?_) (fun c9 => absurd (rfl) c9)
      exact hk _ _ _ (LI_mk0 (nRl.rf q) (hkr) (tp_add ht h39 hx1 hx2) (hsr) hP hD hS hl)
set_option maxHeartbeats 4000000 in
set_option maxRecDepth 100000 in
theorem lc_set (C0 : lwC p s m meth c b L xs dC dI cI cJ cS A aK aV) (hi : i + 6 ≤ L) (hk : ∀ (H : Heap) (locs : List Loc) (ls : Array Slot), LI dC dI cI cJ cS A s.heap xa sd sq b i H locs ls → W p l e room_1 s m #[Value.ref b] below meth c H locs 100 2000 (lw_Z below #[Value.ref b] s) (F0 m 1356 ls [])) (hI : LI dC dI cI cJ cS A s.heap xa sd sq b i H locs ls) : W p l e room_1 s m #[Value.ref b] below meth c H locs 100 2000 (lw_Z below #[Value.ref b] s) (F0 m 207 ls []) := by
  obtain ⟨hx, hb, hr, hml, hown, hts, hX, hbl, hlocks, hKK, hZ, hA, hbA, hL⟩ := C0
  obtain ⟨im, _, _, _, _, _, _, nx, kf, wf, sf, Rr, Pr, Pd, tn, tp, n2, h2, rg2, sp2, Tp, Kq, Wq, sf2, n1, h1, rg1, sp1, dr1, kn1, nx1, kf1, wf1, sf1, R1, P1, D1, Th, Ln, Sz, Rw, at0, st0, nu, rm, rh, Bw, It, Rs, Rd, Hl, ⟨rfl, rfl, rfl, rfl, rfl, rfl, q⟩, hkr, ht, hsr, hP, hD, hS, hl⟩ := hI
  have hm : mOk Bw := q.1
  have ok : wOk (Bw 0) (kdB Bw) (wdB Bw) := hm.1
  have fk : isA (Bw 0) kf (kdB Bw) := q.2.1
  have fw : isA (Bw 0) wf (wdB Bw) := q.2.2.1
  obtain ⟨Sh, fs, hSo⟩ := q.2.2.2.1
  have hre : reR (Bw 0) Rr Bw := q.2.2.2.2.1
  have hnx : nx < 8 := q.2.2.2.2.2.1
  have hSs : ∀ j, j < Bw 0 → Sh j < spB Bw := fun j hj => (hSo j hj).1
  have hsp : spB Bw ≤ 47045881 := (spB_b hm).2
  have hsp0 : 0 < spB Bw := (spB_b hm).1
  have hrg : rgB Bw < 2 ^ 31 := by have := (rgB_b hm).2; omega
  have hR : rOk (Bw 0) (wdB Bw) Rr := q.ro
  have hkn : Bw 39 ≤ 8 := hm.2.2.2.1
  have hh : Bw 1 ≤ Bw 0 := hm.2.1
  have h6 : Bw 0 ≤ 6 := hm.n
  obtain ⟨hz, hl3, hit⟩ := id hsr
  have pok := (psS_ok (T := Tp) (n := tn) (K := Kq) (W := Wq) ht).1
  refine lv_aload_n hx hb dL_law_207 rfl (lv_at hl 1 rfl) ?_
  rcases par_eq ht Kq Wq st0 nu Rd with ⟨g0, z1, eN, eH, al⟩ | ⟨g0, z0, eF⟩
  · skip
    refine lq_calli (va_runV (As := []) (rest := []) ⟨hx, hb, hml, hown, hts⟩ (c_X4_set_g l dC dI cI cJ cS _ aK aV (xa 0) (xa 9) (xa 15) (xa 23) im (xa 1) (xa 2) (xa 3) (xa 4) (xa 5) (xa 6) (xa 7) (xa 8) (Bw 0) (Bw 1) (rgB Bw) (spB Bw) (Bw 14) (Bw 39) nx kf wf sf (kdB Bw) (wdB Bw) Sh Rr Pr Pd (xa 10) (xa 11) (xa 12) (xa 13) (xa 14) tn tp n2 h2 rg2 sp2 Tp Kq Wq sf2 (ht) (g0)) (cwV 0 hts gL_law_X4_set rfl rfl rfl (by decide +kernel) ⟨Nat.le_of_ble_eq_true rfl, Nat.le_of_ble_eq_true rfl⟩) (rws_preV hKK (hP.sub [0, 1, 2, 3, 4, 5, 6, 7, 8, 9, 10, 11, 12, 13, 14] rfl) (hD.sub [0, 1, 2, 3, 4, 5, 6, 7, 8, 9, 10, 11, 12, 13, 14] (by decide) rfl) ((hZ.kept hS.2.1).narrow (va_free hD hS hA [0, 1, 2, 3, 4, 5, 6, 7, 8, 9, 10, 11, 12, 13, 14] rfl)) rfl rfl) rfl rfl hl.1 rfl (lv_room (Nat.le_of_ble_eq_true rfl)) dL_law_208 ⟨Nat.le_of_ble_eq_true rfl, Nat.le_of_ble_eq_true rfl⟩) hP hD hS hA [0, 1, 2, 3, 4, 5, 6, 7, 8, 9, 10, 11, 12, 13, 14] [15, 16, 17, 18, 19, 20, 21, 22, 23, 24, 25, 26, 27, 28, 29, 30, 31, 32, 33, 34, 35, 36, 37, 38, 39, 40] rfl rfl (by decide) (by decide) [26, 27, 28, 29, 30, 31, 32, 33, 34, 35, 36, 37, 38, 39, 40, 0, 1, 2, 3, 4, 5, 6, 7, 8, 9, 10, 11, 12, 13, 14, 15, 16, 17, 18, 19, 20, 21, 22, 23, 24, 25] (lawW cI cJ cS xa sd sq im ((psS Tp tn Kq Wq).1.2.1) ((psS Tp tn Kq Wq).1.2.2.1) ((psS Tp tn Kq Wq).1.2.2.2.1) ((psS Tp tn Kq Wq).1.2.2.2.2.1) (Bw 14) 0 nx (va_cpy (nA (psS Tp tn Kq Wq).1.2.2.2.2.2.1) kf 0 0 6) (va_cpy (nA (psS Tp tn Kq Wq).1.2.2.2.2.2.2) wf 0 0 6) (va_cpy (shF (psS Tp tn Kq Wq).1.2.2.2.2.2.2 (psS Tp tn Kq Wq).1.2.2.2.2.1 sf2 (psS Tp tn Kq Wq).1.2.1) sf 0 0 6) (zN 24 Rr) Pr Pd 0 ((psS Tp tn Kq Wq).1.1) ((psS Tp tn Kq Wq).1.2.1) ((psS Tp tn Kq Wq).1.2.2.1) ((psS Tp tn Kq Wq).1.2.2.2.1) ((psS Tp tn Kq Wq).1.2.2.2.2.1) Tp ((psS Tp tn Kq Wq).1.2.2.2.2.2.1) ((psS Tp tn Kq Wq).1.2.2.2.2.2.2) (shF (psS Tp tn Kq Wq).1.2.2.2.2.2.2 (psS Tp tn Kq Wq).1.2.2.2.2.1 sf2 (psS Tp tn Kq Wq).1.2.1) n1 h1 rg1 sp1 dr1 kn1 nx1 kf1 wf1 sf1 R1 P1 D1 0 (Th 0) (Ln 0) (Sz 0) (Rw 0) 1 (Th 1) (Ln 1) (Sz 1) (Rw 1) 2 (Th 2) (Ln 2) (Sz 2) (Rw 2) 3 (Th 3) (Ln 3) (Sz 3) (Rw 3) im tn at0 st0 nu rm rh Bw Tp (laF Th Ln) Sz It Rs Rd Hl) (by decide) rfl (fun H locs hP hD hS => ?_)
    refine lv_aload_n hx hb dL_law_211 rfl (lv_at hl 2 rfl) ?_
    refine lq_calli (va_runV (As := []) (rest := [.int (nI ((psS Tp tn Kq Wq).1.2.1))]) ⟨hx, hb, hml, hown, hts⟩ (c_X5_set_g l dC dI cI cJ cS _ (xa 32) (xa 33) (xa 34) (xa 35) (xa 36) (xa 37) (xa 38) (xa 39) (xa 40) im tn at0 st0 nu rm rh Bw Tp Rd (ht) (z1)) (cwV 0 hts gL_law_X5_set rfl rfl rfl (by decide +kernel) ⟨Nat.le_of_ble_eq_true rfl, Nat.le_of_ble_eq_true rfl⟩) (rw_preV hKK (hP.sub [32, 33, 34, 39] rfl) (hD.sub [32, 33, 34, 39] (by decide) rfl) rfl rfl) rfl rfl hl.1 rfl (lv_room (Nat.le_of_ble_eq_true rfl)) dL_law_212 ⟨Nat.le_of_ble_eq_true rfl, Nat.le_of_ble_eq_true rfl⟩) hP hD hS hA [32, 33, 34, 39] [0, 1, 2, 3, 4, 5, 6, 7, 8, 9, 10, 11, 12, 13, 14, 15, 16, 17, 18, 19, 20, 21, 22, 23, 24, 25, 26, 27, 28, 29, 30, 31, 35, 36, 37, 38, 40] rfl rfl (by decide) (by decide) [0, 1, 2, 3, 4, 5, 6, 7, 8, 9, 10, 11, 12, 13, 14, 15, 16, 17, 18, 19, 20, 21, 22, 23, 24, 25, 26, 27, 28, 29, 30, 31, 37, 38, 39, 32, 33, 34, 35, 40, 36] (lawW cI cJ cS xa sd sq im ((psS Tp tn Kq Wq).1.2.1) ((psS Tp tn Kq Wq).1.2.2.1) ((psS Tp tn Kq Wq).1.2.2.2.1) ((psS Tp tn Kq Wq).1.2.2.2.2.1) (Bw 14) 0 nx (va_cpy (nA (psS Tp tn Kq Wq).1.2.2.2.2.2.1) kf 0 0 6) (va_cpy (nA (psS Tp tn Kq Wq).1.2.2.2.2.2.2) wf 0 0 6) (va_cpy (shF (psS Tp tn Kq Wq).1.2.2.2.2.2.2 (psS Tp tn Kq Wq).1.2.2.2.2.1 sf2 (psS Tp tn Kq Wq).1.2.1) sf 0 0 6) (zN 24 Rr) Pr Pd 0 ((psS Tp tn Kq Wq).1.1) ((psS Tp tn Kq Wq).1.2.1) ((psS Tp tn Kq Wq).1.2.2.1) ((psS Tp tn Kq Wq).1.2.2.2.1) ((psS Tp tn Kq Wq).1.2.2.2.2.1) Tp ((psS Tp tn Kq Wq).1.2.2.2.2.2.1) ((psS Tp tn Kq Wq).1.2.2.2.2.2.2) (shF (psS Tp tn Kq Wq).1.2.2.2.2.2.2 (psS Tp tn Kq Wq).1.2.2.2.2.1 sf2 (psS Tp tn Kq Wq).1.2.1) n1 h1 rg1 sp1 dr1 kn1 nx1 kf1 wf1 sf1 R1 P1 D1 0 (Th 0) (Ln 0) (Sz 0) (Rw 0) 1 (Th 1) (Ln 1) (Sz 1) (Rw 1) 2 (Th 2) (Ln 2) (Sz 2) (Rw 2) 3 (Th 3) (Ln 3) (Sz 3) (Rw 3) im 0 ((rdL Tp tn 6 (0, st0, nu, 0, 0, Rd) false).1.1) ((rdL Tp tn 6 (0, st0, nu, 0, 0, Rd) false).1.2.1) ((rdL Tp tn 6 (0, st0, nu, 0, 0, Rd) false).1.2.2.1) ((rdL Tp tn 6 (0, st0, nu, 0, 0, Rd) false).1.2.2.2.1) ((rdL Tp tn 6 (0, st0, nu, 0, 0, Rd) false).1.2.2.2.2.1) (stB Bw (rdL Tp tn 6 (0, st0, nu, 0, 0, Rd) false).1.2.2.2.1 (rdL Tp tn 6 (0, st0, nu, 0, 0, Rd) false).1.2.2.2.2.1 (rdL Tp tn 6 (0, st0, nu, 0, 0, Rd) false).1.2.2.2.2.2) Tp (laF Th Ln) Sz It Rs ((rdL Tp tn 6 (0, st0, nu, 0, 0, Rd) false).1.2.2.2.2.2) Hl) (by decide) rfl (fun H locs hP hD hS => ?_)
    refine lv_icmp_eq (tgt := 1356) hx hb dL_law_215 (by decide) (fun _ => ?_) (fun c9 => absurd (congrArg nI eN) c9)
    exact hk _ _ _ (LI_mk0 (by rw [← eN, ← eH]; exact nRl.set hm.2.2.2.2 hnx pok.2.1 pok.2.2.1 pok.2.2.2.1 pok.2.2.2.2 al) (hkr.mv (fun j hj => stB_far (by rw [← eN]; exact pok.2.1.1) (by omega))) (tp_0) (hsr) hP hD hS hl)
  · skip
    refine lq_calli (va_runV (As := []) (rest := []) ⟨hx, hb, hml, hown, hts⟩ (c_X4_set_b l dC dI cI cJ cS _ aK aV (xa 0) (xa 9) (xa 15) (xa 23) im (xa 1) (xa 2) (xa 3) (xa 4) (xa 5) (xa 6) (xa 7) (xa 8) (Bw 0) (Bw 1) (rgB Bw) (spB Bw) (Bw 14) (Bw 39) nx kf wf sf (kdB Bw) (wdB Bw) Sh Rr Pr Pd (xa 10) (xa 11) (xa 12) (xa 13) (xa 14) tn tp n2 h2 rg2 sp2 Tp Kq Wq sf2 (ht) (g0)) (cwV 0 hts gL_law_X4_set rfl rfl rfl (by decide +kernel) ⟨Nat.le_of_ble_eq_true rfl, Nat.le_of_ble_eq_true rfl⟩) (rws_preV hKK (hP.sub [0, 1, 2, 3, 4, 5, 6, 7, 8, 9, 10, 11, 12, 13, 14] rfl) (hD.sub [0, 1, 2, 3, 4, 5, 6, 7, 8, 9, 10, 11, 12, 13, 14] (by decide) rfl) ((hZ.kept hS.2.1).narrow (va_free hD hS hA [0, 1, 2, 3, 4, 5, 6, 7, 8, 9, 10, 11, 12, 13, 14] rfl)) rfl rfl) rfl rfl hl.1 rfl (lv_room (Nat.le_of_ble_eq_true rfl)) dL_law_208 ⟨Nat.le_of_ble_eq_true rfl, Nat.le_of_ble_eq_true rfl⟩) hP hD hS hA [0, 1, 2, 3, 4, 5, 6, 7, 8, 9, 10, 11, 12, 13, 14] [15, 16, 17, 18, 19, 20, 21, 22, 23, 24, 25, 26, 27, 28, 29, 30, 31, 32, 33, 34, 35, 36, 37, 38, 39, 40] rfl rfl (by decide) (by decide) [26, 27, 28, 29, 30, 31, 32, 33, 34, 35, 36, 37, 38, 39, 40, 0, 1, 2, 3, 4, 5, 6, 7, 8, 9, 10, 11, 12, 13, 14, 15, 16, 17, 18, 19, 20, 21, 22, 23, 24, 25] (lawW cI cJ cS xa sd sq im (Bw 0) (Bw 1) (rgB Bw) (spB Bw) (Bw 14) (Bw 39) nx kf wf sf Rr Pr Pd 0 ((psS Tp tn Kq Wq).1.1) ((psS Tp tn Kq Wq).1.2.1) ((psS Tp tn Kq Wq).1.2.2.1) ((psS Tp tn Kq Wq).1.2.2.2.1) ((psS Tp tn Kq Wq).1.2.2.2.2.1) Tp ((psS Tp tn Kq Wq).1.2.2.2.2.2.1) ((psS Tp tn Kq Wq).1.2.2.2.2.2.2) sf2 n1 h1 rg1 sp1 dr1 kn1 nx1 kf1 wf1 sf1 R1 P1 D1 0 (Th 0) (Ln 0) (Sz 0) (Rw 0) 1 (Th 1) (Ln 1) (Sz 1) (Rw 1) 2 (Th 2) (Ln 2) (Sz 2) (Rw 2) 3 (Th 3) (Ln 3) (Sz 3) (Rw 3) im tn at0 st0 nu rm rh Bw Tp (laF Th Ln) Sz It Rs Rd Hl) (by decide) rfl (fun H locs hP hD hS => ?_)
    refine lv_aload_n hx hb dL_law_211 rfl (lv_at hl 2 rfl) ?_
    refine lq_calli (va_runV (As := []) (rest := [.int ((psS Tp tn Kq Wq).2)]) ⟨hx, hb, hml, hown, hts⟩ (c_X5_set_b l dC dI cI cJ cS _ (xa 32) (xa 33) (xa 34) (xa 35) (xa 36) (xa 37) (xa 38) (xa 39) (xa 40) im tn at0 st0 nu rm rh Bw Tp Rd (ht) (z0)) (cwV 0 hts gL_law_X5_set rfl rfl rfl (by decide +kernel) ⟨Nat.le_of_ble_eq_true rfl, Nat.le_of_ble_eq_true rfl⟩) (rw_preV hKK (hP.sub [32, 33, 34, 39] rfl) (hD.sub [32, 33, 34, 39] (by decide) rfl) rfl rfl) rfl rfl hl.1 rfl (lv_room (Nat.le_of_ble_eq_true rfl)) dL_law_212 ⟨Nat.le_of_ble_eq_true rfl, Nat.le_of_ble_eq_true rfl⟩) hP hD hS hA [32, 33, 34, 39] [0, 1, 2, 3, 4, 5, 6, 7, 8, 9, 10, 11, 12, 13, 14, 15, 16, 17, 18, 19, 20, 21, 22, 23, 24, 25, 26, 27, 28, 29, 30, 31, 35, 36, 37, 38, 40] rfl rfl (by decide) (by decide) [0, 1, 2, 3, 4, 5, 6, 7, 8, 9, 10, 11, 12, 13, 14, 15, 16, 17, 18, 19, 20, 21, 22, 23, 24, 25, 26, 27, 28, 29, 30, 31, 37, 38, 39, 32, 33, 34, 35, 40, 36] (lawW cI cJ cS xa sd sq im (Bw 0) (Bw 1) (rgB Bw) (spB Bw) (Bw 14) (Bw 39) nx kf wf sf Rr Pr Pd 0 ((psS Tp tn Kq Wq).1.1) ((psS Tp tn Kq Wq).1.2.1) ((psS Tp tn Kq Wq).1.2.2.1) ((psS Tp tn Kq Wq).1.2.2.2.1) ((psS Tp tn Kq Wq).1.2.2.2.2.1) Tp ((psS Tp tn Kq Wq).1.2.2.2.2.2.1) ((psS Tp tn Kq Wq).1.2.2.2.2.2.2) sf2 n1 h1 rg1 sp1 dr1 kn1 nx1 kf1 wf1 sf1 R1 P1 D1 0 (Th 0) (Ln 0) (Sz 0) (Rw 0) 1 (Th 1) (Ln 1) (Sz 1) (Rw 1) 2 (Th 2) (Ln 2) (Sz 2) (Rw 2) 3 (Th 3) (Ln 3) (Sz 3) (Rw 3) im 0 ((rdL Tp tn 6 (0, st0, nu, 0, 0, Rd) false).1.1) ((rdL Tp tn 6 (0, st0, nu, 0, 0, Rd) false).1.2.1) ((rdL Tp tn 6 (0, st0, nu, 0, 0, Rd) false).1.2.2.1) ((rdL Tp tn 6 (0, st0, nu, 0, 0, Rd) false).1.2.2.2.1) ((rdL Tp tn 6 (0, st0, nu, 0, 0, Rd) false).1.2.2.2.2.1) Bw Tp (laF Th Ln) Sz It Rs ((rdL Tp tn 6 (0, st0, nu, 0, 0, Rd) false).1.2.2.2.2.2) Hl) (by decide) rfl (fun H locs hP hD hS => ?_)
    refine lv_icmp_eq (tgt := 1356) hx hb dL_law_215 (by decide) (fun _ => ?_) (fun c9 => absurd (eF) c9)
    exact hk _ _ _ (LI_mk0 (nRl.rf q) (hkr) (tp_0) (hsr) hP hD hS hl)
set_option maxHeartbeats 4000000 in
set_option maxRecDepth 100000 in
theorem lc_at (C0 : lwC p s m meth c b L xs dC dI cI cJ cS A aK aV) (hi : i + 6 ≤ L) (hk : ∀ (H : Heap) (locs : List Loc) (ls : Array Slot), LI dC dI cI cJ cS A s.heap xa sd sq b i H locs ls → W p l e room_1 s m #[Value.ref b] below meth c H locs 100 2000 (lw_Z below #[Value.ref b] s) (F0 m 1356 ls [])) (hI : LI dC dI cI cJ cS A s.heap xa sd sq b i H locs ls) : W p l e room_1 s m #[Value.ref b] below meth c H locs 100 2000 (lw_Z below #[Value.ref b] s) (F0 m 286 ls []) := by
  obtain ⟨hx, hb, hr, hml, hown, hts, hX, hbl, hlocks, hKK, hZ, hA, hbA, hL⟩ := C0
  obtain ⟨im, _, _, _, _, _, _, nx, kf, wf, sf, Rr, Pr, Pd, tn, tp, n2, h2, rg2, sp2, Tp, Kq, Wq, sf2, n1, h1, rg1, sp1, dr1, kn1, nx1, kf1, wf1, sf1, R1, P1, D1, Th, Ln, Sz, Rw, at0, st0, nu, rm, rh, Bw, It, Rs, Rd, Hl, ⟨rfl, rfl, rfl, rfl, rfl, rfl, q⟩, hkr, ht, hsr, hP, hD, hS, hl⟩ := hI
  have hm : mOk Bw := q.1
  have ok : wOk (Bw 0) (kdB Bw) (wdB Bw) := hm.1
  have fk : isA (Bw 0) kf (kdB Bw) := q.2.1
  have fw : isA (Bw 0) wf (wdB Bw) := q.2.2.1
  obtain ⟨Sh, fs, hSo⟩ := q.2.2.2.1
  have hre : reR (Bw 0) Rr Bw := q.2.2.2.2.1
  have hnx : nx < 8 := q.2.2.2.2.2.1
  have hSs : ∀ j, j < Bw 0 → Sh j < spB Bw := fun j hj => (hSo j hj).1
  have hsp : spB Bw ≤ 47045881 := (spB_b hm).2
  have hsp0 : 0 < spB Bw := (spB_b hm).1
  have hrg : rgB Bw < 2 ^ 31 := by have := (rgB_b hm).2; omega
  have hR : rOk (Bw 0) (wdB Bw) Rr := q.ro
  have hkn : Bw 39 ≤ 8 := hm.2.2.2.1
  have hh : Bw 1 ≤ Bw 0 := hm.2.1
  have h6 : Bw 0 ≤ 6 := hm.n
  obtain ⟨hz, hl3, hit⟩ := id hsr
  obtain ⟨v1, e1⟩ : ∃ v, xs (i + 1) = v := ⟨_, rfl⟩
  obtain ⟨v2, e2⟩ : ∃ v, xs (i + 2) = v := ⟨_, rfl⟩
  refine lv_aload_n hx hb dL_law_286 rfl (lv_at hl 1 rfl) ?_
  refine la_arg hx hb hX hbl hbA hS hl hL e1 (by omega) dL_law_287 dL_law_288 dL_law_289 (by decide) dL_law_290 dL_law_291 ?_
  refine la_arg hx hb hX hbl hbA hS hl hL e2 (by omega) dL_law_292 dL_law_293 dL_law_294 (by decide) dL_law_295 dL_law_296 ?_
  by_cases hbad : (inb v1 4 && inb v2 2) = false
  · skip
    refine rr_callR (va_runV (As := [.int v1, .int v2]) (rest := []) ⟨hx, hb, hml, hown, hts⟩ (c_X4_at_b l dC dI cI cJ cS (xa 0) (xa 9) (xa 15) (xa 23) im (xa 1) (xa 2) (xa 3) (xa 4) (xa 5) (xa 6) (xa 7) (xa 8) (Bw 0) (Bw 1) (rgB Bw) (spB Bw) (Bw 14) (Bw 39) nx kf wf sf (kdB Bw) (wdB Bw) Sh Rr Pr Pd v1 v2 (ok) (fw) (hbad)) (cwV 2 hts gL_law_X4_at rfl rfl rfl (by decide +kernel) ⟨Nat.le_of_ble_eq_true rfl, Nat.le_of_ble_eq_true rfl⟩) (rr_preV hKK (hP.sub [0, 1, 2, 3, 4, 5, 6, 7, 8] rfl) rfl rfl) rfl rfl hl.1 rfl (lv_room (Nat.le_of_ble_eq_true rfl)) dL_law_297 ⟨Nat.le_of_ble_eq_true rfl, Nat.le_of_ble_eq_true rfl⟩) ?_
    refine lv_aload_n hx hb dL_law_300 rfl (lv_at hl 2 rfl) ?_
    refine la_arg hx hb hX hbl hbA hS hl hL e1 (by omega) dL_law_301 dL_law_302 dL_law_303 (by decide) dL_law_304 dL_law_305 ?_
    refine la_arg hx hb hX hbl hbA hS hl hL e2 (by omega) dL_law_306 dL_law_307 dL_law_308 (by decide) dL_law_309 dL_law_310 ?_
    refine rr_callR (va_runV (As := [.int v1, .int v2]) (rest := [.int (-1)]) ⟨hx, hb, hml, hown, hts⟩ (c_X5_at_b l dC dI cI cJ cS (xa 32) (xa 33) (xa 34) (xa 35) (xa 36) (xa 37) (xa 38) (xa 39) (xa 40) im tn at0 st0 nu rm rh Bw v1 v2 (hm) (hbad)) (cwV 2 hts gL_law_X5_at rfl rfl rfl (by decide +kernel) ⟨Nat.le_of_ble_eq_true rfl, Nat.le_of_ble_eq_true rfl⟩) (rr_preV hKK (hP.sub [32, 33] rfl) rfl rfl) rfl rfl hl.1 rfl (lv_room (Nat.le_of_ble_eq_true rfl)) dL_law_311 ⟨Nat.le_of_ble_eq_true rfl, Nat.le_of_ble_eq_true rfl⟩) ?_
    refine lv_icmp_eq (tgt := 1356) hx hb dL_law_314 (by decide) (fun _ => ?_) (fun c9 => absurd (rfl) c9)
    exact hk _ _ _ (LI_mk0 (nRl.rf q) (hkr) (ht) (hsr) hP hD hS hl)
  · simp only [Bool.not_eq_false, Bool.and_eq_true] at hbad
    obtain ⟨r, hr4, rfl⟩ := inb_of (by decide) hbad.1
    obtain ⟨w, hw, rfl⟩ := inb_of (by decide) hbad.2
    rcases (show w = 0 ∨ w = 1 by omega) with rfl | rfl
    · skip
      refine rr_callR (va_runV (As := [.int (nI r), .int (nI 0)]) (rest := []) ⟨hx, hb, hml, hown, hts⟩ (c_X4_at_0 l dC dI cI cJ cS (xa 0) (xa 9) (xa 15) (xa 23) im (xa 1) (xa 2) (xa 3) (xa 4) (xa 5) (xa 6) (xa 7) (xa 8) (Bw 0) (Bw 1) (rgB Bw) (spB Bw) (Bw 14) (Bw 39) nx kf wf sf (kdB Bw) (wdB Bw) Sh Rr Pr Pd r (ok) (fk) (fw) (fs) (hSs) (hsp) (hsp0) (hR) (hrg) (hr4)) (cwV 2 hts gL_law_X4_at rfl rfl rfl (by decide +kernel) ⟨Nat.le_of_ble_eq_true rfl, Nat.le_of_ble_eq_true rfl⟩) (rr_preV hKK (hP.sub [0, 1, 2, 3, 4, 5, 6, 7, 8] rfl) rfl rfl) rfl rfl hl.1 rfl (lv_room (Nat.le_of_ble_eq_true rfl)) dL_law_297 ⟨Nat.le_of_ble_eq_true rfl, Nat.le_of_ble_eq_true rfl⟩) ?_
      refine lv_aload_n hx hb dL_law_300 rfl (lv_at hl 2 rfl) ?_
      refine la_arg hx hb hX hbl hbA hS hl hL e1 (by omega) dL_law_301 dL_law_302 dL_law_303 (by decide) dL_law_304 dL_law_305 ?_
      refine la_arg hx hb hX hbl hbA hS hl hL e2 (by omega) dL_law_306 dL_law_307 dL_law_308 (by decide) dL_law_309 dL_law_310 ?_
      refine lq_calli (va_runV (As := [.int (nI r), .int (nI 0)]) (rest := [.int (nI (vR Sh Rr (spB Bw) (Bw 0) r))]) ⟨hx, hb, hml, hown, hts⟩ (c_X5_at_0 l dC dI cI cJ cS _ (xa 32) (xa 33) (xa 34) (xa 35) (xa 36) (xa 37) (xa 38) (xa 39) (xa 40) im tn at0 st0 nu rm rh Bw Rs r (hm) (hr4)) (cwV 2 hts gL_law_X5_at rfl rfl rfl (by decide +kernel) ⟨Nat.le_of_ble_eq_true rfl, Nat.le_of_ble_eq_true rfl⟩) (rw_preV hKK (hP.sub [32, 33, 38] rfl) (hD.sub [32, 33, 38] (by decide) rfl) rfl rfl) rfl rfl hl.1 rfl (lv_room (Nat.le_of_ble_eq_true rfl)) dL_law_311 ⟨Nat.le_of_ble_eq_true rfl, Nat.le_of_ble_eq_true rfl⟩) hP hD hS hA [32, 33, 38] [0, 1, 2, 3, 4, 5, 6, 7, 8, 9, 10, 11, 12, 13, 14, 15, 16, 17, 18, 19, 20, 21, 22, 23, 24, 25, 26, 27, 28, 29, 30, 31, 34, 35, 36, 37, 39, 40] rfl rfl (by decide) (by decide) [0, 1, 2, 3, 4, 5, 6, 7, 8, 9, 10, 11, 12, 13, 14, 15, 16, 17, 18, 19, 20, 21, 22, 23, 24, 25, 26, 27, 28, 29, 30, 31, 38, 39, 32, 33, 34, 35, 40, 36, 37] (lawW cI cJ cS xa sd sq im (Bw 0) (Bw 1) (rgB Bw) (spB Bw) (Bw 14) (Bw 39) nx kf wf sf Rr Pr Pd tn tp n2 h2 rg2 sp2 Tp Kq Wq sf2 n1 h1 rg1 sp1 dr1 kn1 nx1 kf1 wf1 sf1 R1 P1 D1 0 (Th 0) (Ln 0) (Sz 0) (Rw 0) 1 (Th 1) (Ln 1) (Sz 1) (Rw 1) 2 (Th 2) (Ln 2) (Sz 2) (Rw 2) 3 (Th 3) (Ln 3) (Sz 3) (Rw 3) im tn at0 st0 nu rm rh Bw Tp (laF Th Ln) Sz It (lkN Bw r 6 Rs) Rd Hl) (by decide) rfl (fun H locs hP hD hS => ?_)
      refine lv_icmp_eq (tgt := 1356) hx hb dL_law_314 (by decide) (fun _ => ?_) (fun c9 => absurd (congrArg nI (vR_VB hm hSo hre hr4)) c9)
      exact hk _ _ _ (LI_mk0 (nRl.rf q) (hkr) (ht) (hsr) hP hD hS hl)
    · skip
      refine rr_callR (va_runV (As := [.int (nI r), .int (nI 1)]) (rest := []) ⟨hx, hb, hml, hown, hts⟩ (c_X4_at_1 l dC dI cI cJ cS (xa 0) (xa 9) (xa 15) (xa 23) im (xa 1) (xa 2) (xa 3) (xa 4) (xa 5) (xa 6) (xa 7) (xa 8) (Bw 0) (Bw 1) (rgB Bw) (spB Bw) (Bw 14) (Bw 39) nx kf wf sf (kdB Bw) (wdB Bw) Sh Rr Pr Pd r (ok) (fk) (fw) (fs) (hSs) (hsp) (hsp0) (hR) (hrg) (hr4)) (cwV 2 hts gL_law_X4_at rfl rfl rfl (by decide +kernel) ⟨Nat.le_of_ble_eq_true rfl, Nat.le_of_ble_eq_true rfl⟩) (rr_preV hKK (hP.sub [0, 1, 2, 3, 4, 5, 6, 7, 8] rfl) rfl rfl) rfl rfl hl.1 rfl (lv_room (Nat.le_of_ble_eq_true rfl)) dL_law_297 ⟨Nat.le_of_ble_eq_true rfl, Nat.le_of_ble_eq_true rfl⟩) ?_
      refine lv_aload_n hx hb dL_law_300 rfl (lv_at hl 2 rfl) ?_
      refine la_arg hx hb hX hbl hbA hS hl hL e1 (by omega) dL_law_301 dL_law_302 dL_law_303 (by decide) dL_law_304 dL_law_305 ?_
      refine la_arg hx hb hX hbl hbA hS hl hL e2 (by omega) dL_law_306 dL_law_307 dL_law_308 (by decide) dL_law_309 dL_law_310 ?_
      refine lq_calli (va_runV (As := [.int (nI r), .int (nI 1)]) (rest := [.int (bi (decide (vR Sh Rr (spB Bw) (Bw 0) r < (rgB Bw))))]) ⟨hx, hb, hml, hown, hts⟩ (c_X5_at_1 l dC dI cI cJ cS _ (xa 32) (xa 33) (xa 34) (xa 35) (xa 36) (xa 37) (xa 38) (xa 39) (xa 40) im tn at0 st0 nu rm rh Bw Rs r (hm) (hr4)) (cwV 2 hts gL_law_X5_at rfl rfl rfl (by decide +kernel) ⟨Nat.le_of_ble_eq_true rfl, Nat.le_of_ble_eq_true rfl⟩) (rw_preV hKK (hP.sub [32, 33, 38] rfl) (hD.sub [32, 33, 38] (by decide) rfl) rfl rfl) rfl rfl hl.1 rfl (lv_room (Nat.le_of_ble_eq_true rfl)) dL_law_311 ⟨Nat.le_of_ble_eq_true rfl, Nat.le_of_ble_eq_true rfl⟩) hP hD hS hA [32, 33, 38] [0, 1, 2, 3, 4, 5, 6, 7, 8, 9, 10, 11, 12, 13, 14, 15, 16, 17, 18, 19, 20, 21, 22, 23, 24, 25, 26, 27, 28, 29, 30, 31, 34, 35, 36, 37, 39, 40] rfl rfl (by decide) (by decide) [0, 1, 2, 3, 4, 5, 6, 7, 8, 9, 10, 11, 12, 13, 14, 15, 16, 17, 18, 19, 20, 21, 22, 23, 24, 25, 26, 27, 28, 29, 30, 31, 38, 39, 32, 33, 34, 35, 40, 36, 37] (lawW cI cJ cS xa sd sq im (Bw 0) (Bw 1) (rgB Bw) (spB Bw) (Bw 14) (Bw 39) nx kf wf sf Rr Pr Pd tn tp n2 h2 rg2 sp2 Tp Kq Wq sf2 n1 h1 rg1 sp1 dr1 kn1 nx1 kf1 wf1 sf1 R1 P1 D1 0 (Th 0) (Ln 0) (Sz 0) (Rw 0) 1 (Th 1) (Ln 1) (Sz 1) (Rw 1) 2 (Th 2) (Ln 2) (Sz 2) (Rw 2) 3 (Th 3) (Ln 3) (Sz 3) (Rw 3) im tn at0 st0 nu rm rh Bw Tp (laF Th Ln) Sz It (lkN Bw r 6 Rs) Rd Hl) (by decide) rfl (fun H locs hP hD hS => ?_)
      refine lv_icmp_eq (tgt := 1356) hx hb dL_law_314 (by decide) (fun _ => ?_) (fun c9 => absurd (by rw [vR_VB hm hSo hre hr4]) c9)
      exact hk _ _ _ (LI_mk0 (nRl.rf q) (hkr) (ht) (hsr) hP hD hS hl)
end LC
