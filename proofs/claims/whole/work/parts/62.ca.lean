section LC
variable {p : Program} {l : Launch} {e : Env} {s : State} {m : MethodId} {below : List Frame} {meth : Method} {c : Code} {b L : Nat} {xs : Nat → Int32} {dC : Nat → ClassId} {dI : Nat → Nat → Nat} {cI cJ cS : ClassId} {A : Nat → Prop} {aK aV : Nat} {xa sd sq : Nat → Nat} {i : Nat} {H : Heap} {locs : List Loc} {ls : Array Slot}
set_option maxHeartbeats 4000000 in
set_option maxRecDepth 100000 in
theorem lc_of (C0 : lwC p s m meth c b L xs dC dI cI cJ cS A aK aV) (hi : i + 6 ≤ L) (hk : ∀ (H : Heap) (locs : List Loc) (ls : Array Slot), LI dC dI cI cJ cS A s.heap xa sd sq b i H locs ls → W p l e room_1 s m #[Value.ref b] below meth c H locs 100 2000 (lw_Z below #[Value.ref b] s) (F0 m 1356 ls [])) (hI : LI dC dI cI cJ cS A s.heap xa sd sq b i H locs ls) : W p l e room_1 s m #[Value.ref b] below meth c H locs 100 2000 (lw_Z below #[Value.ref b] s) (F0 m 220 ls []) := by
  obtain ⟨hx, hb, hr, hml, hown, hts, hX, hbl, hlocks, hKK, hZ, hA, hbA, hL⟩ := C0
  obtain ⟨im, _, _, _, _, _, _, nx, kf, wf, sf, Rr, Pr, Pd, tn, tp, n2, h2, rg2, sp2, Tp, Kq, Wq, sf2, n1, h1, rg1, sp1, dr1, kn1, nx1, kf1, wf1, sf1, R1, P1, D1, Th, Ln, Sz, Rw, at0, st0, nu, rm, rh, Bw, It, Rs, Rd, Hl, ⟨rfl, rfl, rfl, rfl, rfl, rfl, q⟩, hkr, ht, hsr, hP, hD, hS, hl⟩ := hI
  have hm : mOk Bw := q.1
  have ok : wOk (Bw 0) (kdB Bw) (wdB Bw) := hm.1
  have fk : isA (Bw 0) kf (kdB Bw) := q.2.1
  have fw : isA (Bw 0) wf (wdB Bw) := q.2.2.1
  obtain ⟨Sh, fs, hSo⟩ := q.2.2.2.1
  have hre : reR (Bw 0) Rr Bw := q.2.2.2.2.1
  have hnx : nx < 8 := q.2.2.2.2.2.1
  have hSs : ∀ j, j < Bw 0 → Sh j < spB Bw := fun j hj => (hSo j hj).1
  have hsp : spB Bw ≤ 47045881 := (spB_b hm).2
  have hsp0 : 0 < spB Bw := (spB_b hm).1
  have hrg : rgB Bw < 2 ^ 31 := by have := (rgB_b hm).2; omega
  have hR : rOk (Bw 0) (wdB Bw) Rr := q.ro
  have hkn : Bw 39 ≤ 8 := hm.2.2.2.1
  have hh : Bw 1 ≤ Bw 0 := hm.2.1
  have h6 : Bw 0 ≤ 6 := hm.n
  obtain ⟨hz, hl3, hit⟩ := id hsr
  obtain ⟨v1, e1⟩ : ∃ v, xs (i + 1) = v := ⟨_, rfl⟩
  obtain ⟨v2, e2⟩ : ∃ v, xs (i + 2) = v := ⟨_, rfl⟩
  refine lv_aload_n hx hb dL_law_220 rfl (lv_at hl 1 rfl) ?_
  refine la_arg hx hb hX hbl hbA hS hl hL e1 (by omega) dL_law_221 dL_law_222 dL_law_223 (by decide) dL_law_224 dL_law_225 ?_
  refine la_arg hx hb hX hbl hbA hS hl hL e2 (by omega) dL_law_226 dL_law_227 dL_law_228 (by decide) dL_law_229 dL_law_230 ?_
  by_cases hbad : (inb v1 (Bw 0) && inb v2 4) = false
  · skip
    refine rr_callR (va_runV (As := [.int v1, .int v2]) (rest := []) ⟨hx, hb, hml, hown, hts⟩ (c_X4_of_b l dC dI cI cJ cS (xa 0) (xa 9) (xa 15) (xa 23) im (xa 1) (xa 2) (xa 3) (xa 4) (xa 5) (xa 6) (xa 7) (xa 8) (Bw 0) (Bw 1) (rgB Bw) (spB Bw) (Bw 14) (Bw 39) nx kf wf sf (kdB Bw) (wdB Bw) Sh Rr Pr Pd v1 v2 (ok) (fw) (hbad)) (cwV 2 hts gL_law_X4_of rfl rfl rfl (by decide +kernel) ⟨Nat.le_of_ble_eq_true rfl, Nat.le_of_ble_eq_true rfl⟩) (rr_preV hKK (hP.sub [0, 1, 2, 3, 4, 5, 6, 7, 8] rfl) rfl rfl) rfl rfl hl.1 rfl (lv_room (Nat.le_of_ble_eq_true rfl)) dL_law_231 ⟨Nat.le_of_ble_eq_true rfl, Nat.le_of_ble_eq_true rfl⟩) ?_
    refine lv_aload_n hx hb dL_law_234 rfl (lv_at hl 2 rfl) ?_
    refine la_arg hx hb hX hbl hbA hS hl hL e1 (by omega) dL_law_235 dL_law_236 dL_law_237 (by decide) dL_law_238 dL_law_239 ?_
    refine la_arg hx hb hX hbl hbA hS hl hL e2 (by omega) dL_law_240 dL_law_241 dL_law_242 (by decide) dL_law_243 dL_law_244 ?_
    refine rr_callR (va_runV (As := [.int v1, .int v2]) (rest := [.int (-1)]) ⟨hx, hb, hml, hown, hts⟩ (c_X5_of_b l dC dI cI cJ cS (xa 32) (xa 33) (xa 34) (xa 35) (xa 36) (xa 37) (xa 38) (xa 39) (xa 40) im tn at0 st0 nu rm rh Bw v1 v2 (hm) (hbad)) (cwV 2 hts gL_law_X5_of rfl rfl rfl (by decide +kernel) ⟨Nat.le_of_ble_eq_true rfl, Nat.le_of_ble_eq_true rfl⟩) (rr_preV hKK (hP.sub [32, 33] rfl) rfl rfl) rfl rfl hl.1 rfl (lv_room (Nat.le_of_ble_eq_true rfl)) dL_law_245 ⟨Nat.le_of_ble_eq_true rfl, Nat.le_of_ble_eq_true rfl⟩) ?_
    refine lv_icmp_eq (tgt := 1356) hx hb dL_law_248 (by decide) (fun _ => ?_) (fun c9 => absurd (rfl) c9)
    exact hk _ _ _ (LI_mk0 (nRl.rf q) (hkr) (ht) (hsr) hP hD hS hl)
  · simp only [Bool.not_eq_false, Bool.and_eq_true] at hbad
    obtain ⟨k, hk2, rfl⟩ := inb_of (by omega) hbad.1
    obtain ⟨w, hw, rfl⟩ := inb_of (by decide) hbad.2
    rcases (show w = 0 ∨ w = 1 ∨ w = 2 ∨ w = 3 by omega) with rfl | rfl | rfl | rfl
    · skip
      refine rr_callR (va_runV (As := [.int (nI k), .int (nI 0)]) (rest := []) ⟨hx, hb, hml, hown, hts⟩ (c_X4_of_0 l dC dI cI cJ cS (xa 0) (xa 9) (xa 15) (xa 23) im (xa 1) (xa 2) (xa 3) (xa 4) (xa 5) (xa 6) (xa 7) (xa 8) (Bw 0) (Bw 1) (rgB Bw) (spB Bw) (Bw 14) (Bw 39) nx kf wf sf (kdB Bw) (wdB Bw) Sh Rr Pr Pd k (ok) (fk) (fw) (hk2) (hh)) (cwV 2 hts gL_law_X4_of rfl rfl rfl (by decide +kernel) ⟨Nat.le_of_ble_eq_true rfl, Nat.le_of_ble_eq_true rfl⟩) (rr_preV hKK (hP.sub [0, 1, 2, 3, 4, 5, 6, 7, 8] rfl) rfl rfl) rfl rfl hl.1 rfl (lv_room (Nat.le_of_ble_eq_true rfl)) dL_law_231 ⟨Nat.le_of_ble_eq_true rfl, Nat.le_of_ble_eq_true rfl⟩) ?_
      refine lv_aload_n hx hb dL_law_234 rfl (lv_at hl 2 rfl) ?_
      refine la_arg hx hb hX hbl hbA hS hl hL e1 (by omega) dL_law_235 dL_law_236 dL_law_237 (by decide) dL_law_238 dL_law_239 ?_
      refine la_arg hx hb hX hbl hbA hS hl hL e2 (by omega) dL_law_240 dL_law_241 dL_law_242 (by decide) dL_law_243 dL_law_244 ?_
      refine rr_callR (va_runV (As := [.int (nI k), .int (nI 0)]) (rest := [.int (nI ((kdB Bw) k))]) ⟨hx, hb, hml, hown, hts⟩ (c_X5_of_0 l dC dI cI cJ cS (xa 32) (xa 33) (xa 34) (xa 35) (xa 36) (xa 37) (xa 38) (xa 39) (xa 40) im tn at0 st0 nu rm rh Bw k (hm) (hk2)) (cwV 2 hts gL_law_X5_of rfl rfl rfl (by decide +kernel) ⟨Nat.le_of_ble_eq_true rfl, Nat.le_of_ble_eq_true rfl⟩) (rr_preV hKK (hP.sub [32, 33] rfl) rfl rfl) rfl rfl hl.1 rfl (lv_room (Nat.le_of_ble_eq_true rfl)) dL_law_245 ⟨Nat.le_of_ble_eq_true rfl, Nat.le_of_ble_eq_true rfl⟩) ?_
      refine lv_icmp_eq (tgt := 1356) hx hb dL_law_248 (by decide) (fun _ => ?_) (fun c9 => absurd (rfl) c9)
      exact hk _ _ _ (LI_mk0 (nRl.rf q) (hkr) (ht) (hsr) hP hD hS hl)
    · skip
      refine rr_callR (va_runV (As := [.int (nI k), .int (nI 1)]) (rest := []) ⟨hx, hb, hml, hown, hts⟩ (c_X4_of_1 l dC dI cI cJ cS (xa 0) (xa 9) (xa 15) (xa 23) im (xa 1) (xa 2) (xa 3) (xa 4) (xa 5) (xa 6) (xa 7) (xa 8) (Bw 0) (Bw 1) (rgB Bw) (spB Bw) (Bw 14) (Bw 39) nx kf wf sf (kdB Bw) (wdB Bw) Sh Rr Pr Pd k (ok) (fk) (fw) (hk2) (hh)) (cwV 2 hts gL_law_X4_of rfl rfl rfl (by decide +kernel) ⟨Nat.le_of_ble_eq_true rfl, Nat.le_of_ble_eq_true rfl⟩) (rr_preV hKK (hP.sub [0, 1, 2, 3, 4, 5, 6, 7, 8] rfl) rfl rfl) rfl rfl hl.1 rfl (lv_room (Nat.le_of_ble_eq_true rfl)) dL_law_231 ⟨Nat.le_of_ble_eq_true rfl, Nat.le_of_ble_eq_true rfl⟩) ?_
      refine lv_aload_n hx hb dL_law_234 rfl (lv_at hl 2 rfl) ?_
      refine la_arg hx hb hX hbl hbA hS hl hL e1 (by omega) dL_law_235 dL_law_236 dL_law_237 (by decide) dL_law_238 dL_law_239 ?_
      refine la_arg hx hb hX hbl hbA hS hl hL e2 (by omega) dL_law_240 dL_law_241 dL_law_242 (by decide) dL_law_243 dL_law_244 ?_
      refine rr_callR (va_runV (As := [.int (nI k), .int (nI 1)]) (rest := [.int (nI ((wdB Bw) k))]) ⟨hx, hb, hml, hown, hts⟩ (c_X5_of_1 l dC dI cI cJ cS (xa 32) (xa 33) (xa 34) (xa 35) (xa 36) (xa 37) (xa 38) (xa 39) (xa 40) im tn at0 st0 nu rm rh Bw k (hm) (hk2)) (cwV 2 hts gL_law_X5_of rfl rfl rfl (by decide +kernel) ⟨Nat.le_of_ble_eq_true rfl, Nat.le_of_ble_eq_true rfl⟩) (rr_preV hKK (hP.sub [32, 33] rfl) rfl rfl) rfl rfl hl.1 rfl (lv_room (Nat.le_of_ble_eq_true rfl)) dL_law_245 ⟨Nat.le_of_ble_eq_true rfl, Nat.le_of_ble_eq_true rfl⟩) ?_
      refine lv_icmp_eq (tgt := 1356) hx hb dL_law_248 (by decide) (fun _ => ?_) (fun c9 => absurd (rfl) c9)
      exact hk _ _ _ (LI_mk0 (nRl.rf q) (hkr) (ht) (hsr) hP hD hS hl)
    · skip
      refine rr_callR (va_runV (As := [.int (nI k), .int (nI 2)]) (rest := []) ⟨hx, hb, hml, hown, hts⟩ (c_X4_of_2 l dC dI cI cJ cS (xa 0) (xa 9) (xa 15) (xa 23) im (xa 1) (xa 2) (xa 3) (xa 4) (xa 5) (xa 6) (xa 7) (xa 8) (Bw 0) (Bw 1) (rgB Bw) (spB Bw) (Bw 14) (Bw 39) nx kf wf sf (kdB Bw) (wdB Bw) Sh Rr Pr Pd k (ok) (fk) (fw) (hk2) (hh)) (cwV 2 hts gL_law_X4_of rfl rfl rfl (by decide +kernel) ⟨Nat.le_of_ble_eq_true rfl, Nat.le_of_ble_eq_true rfl⟩) (rr_preV hKK (hP.sub [0, 1, 2, 3, 4, 5, 6, 7, 8] rfl) rfl rfl) rfl rfl hl.1 rfl (lv_room (Nat.le_of_ble_eq_true rfl)) dL_law_231 ⟨Nat.le_of_ble_eq_true rfl, Nat.le_of_ble_eq_true rfl⟩) ?_
      refine lv_aload_n hx hb dL_law_234 rfl (lv_at hl 2 rfl) ?_
      refine la_arg hx hb hX hbl hbA hS hl hL e1 (by omega) dL_law_235 dL_law_236 dL_law_237 (by decide) dL_law_238 dL_law_239 ?_
      refine la_arg hx hb hX hbl hbA hS hl hL e2 (by omega) dL_law_240 dL_law_241 dL_law_242 (by decide) dL_law_243 dL_law_244 ?_
      refine rr_callR (va_runV (As := [.int (nI k), .int (nI 2)]) (rest := [.int (nI (if k < (Bw 1) then 0 else 1))]) ⟨hx, hb, hml, hown, hts⟩ (c_X5_of_2 l dC dI cI cJ cS (xa 32) (xa 33) (xa 34) (xa 35) (xa 36) (xa 37) (xa 38) (xa 39) (xa 40) im tn at0 st0 nu rm rh Bw k (hm) (hk2)) (cwV 2 hts gL_law_X5_of rfl rfl rfl (by decide +kernel) ⟨Nat.le_of_ble_eq_true rfl, Nat.le_of_ble_eq_true rfl⟩) (rr_preV hKK (hP.sub [32, 33] rfl) rfl rfl) rfl rfl hl.1 rfl (lv_room (Nat.le_of_ble_eq_true rfl)) dL_law_245 ⟨Nat.le_of_ble_eq_true rfl, Nat.le_of_ble_eq_true rfl⟩) ?_
      refine lv_icmp_eq (tgt := 1356) hx hb dL_law_248 (by decide) (fun _ => ?_) (fun c9 => absurd (rfl) c9)
      exact hk _ _ _ (LI_mk0 (nRl.rf q) (hkr) (ht) (hsr) hP hD hS hl)
    · skip
      refine rr_callR (va_runV (As := [.int (nI k), .int (nI 3)]) (rest := []) ⟨hx, hb, hml, hown, hts⟩ (c_X4_of_3 l dC dI cI cJ cS (xa 0) (xa 9) (xa 15) (xa 23) im (xa 1) (xa 2) (xa 3) (xa 4) (xa 5) (xa 6) (xa 7) (xa 8) (Bw 0) (Bw 1) (rgB Bw) (spB Bw) (Bw 14) (Bw 39) nx kf wf sf (kdB Bw) (wdB Bw) Sh Rr Pr Pd k (ok) (fk) (fw) (hk2) (hh)) (cwV 2 hts gL_law_X4_of rfl rfl rfl (by decide +kernel) ⟨Nat.le_of_ble_eq_true rfl, Nat.le_of_ble_eq_true rfl⟩) (rr_preV hKK (hP.sub [0, 1, 2, 3, 4, 5, 6, 7, 8] rfl) rfl rfl) rfl rfl hl.1 rfl (lv_room (Nat.le_of_ble_eq_true rfl)) dL_law_231 ⟨Nat.le_of_ble_eq_true rfl, Nat.le_of_ble_eq_true rfl⟩) ?_
      refine lv_aload_n hx hb dL_law_234 rfl (lv_at hl 2 rfl) ?_
      refine la_arg hx hb hX hbl hbA hS hl hL e1 (by omega) dL_law_235 dL_law_236 dL_law_237 (by decide) dL_law_238 dL_law_239 ?_
      refine la_arg hx hb hX hbl hbA hS hl hL e2 (by omega) dL_law_240 dL_law_241 dL_law_242 (by decide) dL_law_243 dL_law_244 ?_
      refine rr_callR (va_runV (As := [.int (nI k), .int (nI 3)]) (rest := [.int (nI (wrS ((kdB Bw) k) ((wdB Bw) k) ((wdB Bw) k)))]) ⟨hx, hb, hml, hown, hts⟩ (c_X5_of_3 l dC dI cI cJ cS (xa 32) (xa 33) (xa 34) (xa 35) (xa 36) (xa 37) (xa 38) (xa 39) (xa 40) im tn at0 st0 nu rm rh Bw k (hm) (hk2)) (cwV 2 hts gL_law_X5_of rfl rfl rfl (by decide +kernel) ⟨Nat.le_of_ble_eq_true rfl, Nat.le_of_ble_eq_true rfl⟩) (rr_preV hKK (hP.sub [32, 33] rfl) rfl rfl) rfl rfl hl.1 rfl (lv_room (Nat.le_of_ble_eq_true rfl)) dL_law_245 ⟨Nat.le_of_ble_eq_true rfl, Nat.le_of_ble_eq_true rfl⟩) ?_
      refine lv_icmp_eq (tgt := 1356) hx hb dL_law_248 (by decide) (fun _ => ?_) (fun c9 => absurd (rfl) c9)
      exact hk _ _ _ (LI_mk0 (nRl.rf q) (hkr) (ht) (hsr) hP hD hS hl)
set_option maxHeartbeats 4000000 in
set_option maxRecDepth 100000 in
theorem lc_rest (C0 : lwC p s m meth c b L xs dC dI cI cJ cS A aK aV) (hi : i + 6 ≤ L) (hk : ∀ (H : Heap) (locs : List Loc) (ls : Array Slot), LI dC dI cI cJ cS A s.heap xa sd sq b i H locs ls → W p l e room_1 s m #[Value.ref b] below meth c H locs 100 2000 (lw_Z below #[Value.ref b] s) (F0 m 1356 ls [])) (hI : LI dC dI cI cJ cS A s.heap xa sd sq b i H locs ls) : W p l e room_1 s m #[Value.ref b] below meth c H locs 100 2000 (lw_Z below #[Value.ref b] s) (F0 m 253 ls []) := by
  obtain ⟨hx, hb, hr, hml, hown, hts, hX, hbl, hlocks, hKK, hZ, hA, hbA, hL⟩ := C0
  obtain ⟨im, _, _, _, _, _, _, nx, kf, wf, sf, Rr, Pr, Pd, tn, tp, n2, h2, rg2, sp2, Tp, Kq, Wq, sf2, n1, h1, rg1, sp1, dr1, kn1, nx1, kf1, wf1, sf1, R1, P1, D1, Th, Ln, Sz, Rw, at0, st0, nu, rm, rh, Bw, It, Rs, Rd, Hl, ⟨rfl, rfl, rfl, rfl, rfl, rfl, q⟩, hkr, ht, hsr, hP, hD, hS, hl⟩ := hI
  have hm : mOk Bw := q.1
  have ok : wOk (Bw 0) (kdB Bw) (wdB Bw) := hm.1
  have fk : isA (Bw 0) kf (kdB Bw) := q.2.1
  have fw : isA (Bw 0) wf (wdB Bw) := q.2.2.1
  obtain ⟨Sh, fs, hSo⟩ := q.2.2.2.1
  have hre : reR (Bw 0) Rr Bw := q.2.2.2.2.1
  have hnx : nx < 8 := q.2.2.2.2.2.1
  have hSs : ∀ j, j < Bw 0 → Sh j < spB Bw := fun j hj => (hSo j hj).1
  have hsp : spB Bw ≤ 47045881 := (spB_b hm).2
  have hsp0 : 0 < spB Bw := (spB_b hm).1
  have hrg : rgB Bw < 2 ^ 31 := by have := (rgB_b hm).2; omega
  have hR : rOk (Bw 0) (wdB Bw) Rr := q.ro
  have hkn : Bw 39 ≤ 8 := hm.2.2.2.1
  have hh : Bw 1 ≤ Bw 0 := hm.2.1
  have h6 : Bw 0 ≤ 6 := hm.n
  obtain ⟨hz, hl3, hit⟩ := id hsr
  obtain ⟨v1, e1⟩ : ∃ v, xs (i + 1) = v := ⟨_, rfl⟩
  obtain ⟨v2, e2⟩ : ∃ v, xs (i + 2) = v := ⟨_, rfl⟩
  refine lv_aload_n hx hb dL_law_253 rfl (lv_at hl 1 rfl) ?_
  refine la_arg hx hb hX hbl hbA hS hl hL e1 (by omega) dL_law_254 dL_law_255 dL_law_256 (by decide) dL_law_257 dL_law_258 ?_
  refine la_arg hx hb hX hbl hbA hS hl hL e2 (by omega) dL_law_259 dL_law_260 dL_law_261 (by decide) dL_law_262 dL_law_263 ?_
  by_cases hbad : (inb v1 4 && inb v2 (Bw 0)) = false
  · skip
    refine rr_callR (va_runV (As := [.int v1, .int v2]) (rest := []) ⟨hx, hb, hml, hown, hts⟩ (c_X4_rest_b l dC dI cI cJ cS (xa 0) (xa 9) (xa 15) (xa 23) im (xa 1) (xa 2) (xa 3) (xa 4) (xa 5) (xa 6) (xa 7) (xa 8) (Bw 0) (Bw 1) (rgB Bw) (spB Bw) (Bw 14) (Bw 39) nx kf wf sf (kdB Bw) (wdB Bw) Sh Rr Pr Pd v1 v2 (ok) (fw) (hbad)) (cwV 2 hts gL_law_X4_rest rfl rfl rfl (by decide +kernel) ⟨Nat.le_of_ble_eq_true rfl, Nat.le_of_ble_eq_true rfl⟩) (rr_preV hKK (hP.sub [0, 1, 2, 3, 4, 5, 6, 7, 8] rfl) rfl rfl) rfl rfl hl.1 rfl (lv_room (Nat.le_of_ble_eq_true rfl)) dL_law_264 ⟨Nat.le_of_ble_eq_true rfl, Nat.le_of_ble_eq_true rfl⟩) ?_
    refine lv_aload_n hx hb dL_law_267 rfl (lv_at hl 2 rfl) ?_
    refine la_arg hx hb hX hbl hbA hS hl hL e1 (by omega) dL_law_268 dL_law_269 dL_law_270 (by decide) dL_law_271 dL_law_272 ?_
    refine la_arg hx hb hX hbl hbA hS hl hL e2 (by omega) dL_law_273 dL_law_274 dL_law_275 (by decide) dL_law_276 dL_law_277 ?_
    refine rr_callR (va_runV (As := [.int v1, .int v2]) (rest := [.int (-1)]) ⟨hx, hb, hml, hown, hts⟩ (c_X5_rest_b l dC dI cI cJ cS (xa 32) (xa 33) (xa 34) (xa 35) (xa 36) (xa 37) (xa 38) (xa 39) (xa 40) im tn at0 st0 nu rm rh Bw v1 v2 (hm) (hbad)) (cwV 2 hts gL_law_X5_rest rfl rfl rfl (by decide +kernel) ⟨Nat.le_of_ble_eq_true rfl, Nat.le_of_ble_eq_true rfl⟩) (rr_preV hKK (hP.sub [32, 33] rfl) rfl rfl) rfl rfl hl.1 rfl (lv_room (Nat.le_of_ble_eq_true rfl)) dL_law_278 ⟨Nat.le_of_ble_eq_true rfl, Nat.le_of_ble_eq_true rfl⟩) ?_
    refine lv_icmp_eq (tgt := 1356) hx hb dL_law_281 (by decide) (fun _ => ?_) (fun c9 => absurd (rfl) c9)
    exact hk _ _ _ (LI_mk0 (nRl.rf q) (hkr) (ht) (hsr) hP hD hS hl)
  · simp only [Bool.not_eq_false, Bool.and_eq_true] at hbad
    obtain ⟨r, hr4, rfl⟩ := inb_of (by decide) hbad.1
    obtain ⟨k, hk2, rfl⟩ := inb_of (by omega) hbad.2
    refine rr_callR (va_runV (As := [.int (nI r), .int (nI k)]) (rest := []) ⟨hx, hb, hml, hown, hts⟩ (c_X4_rest_g l dC dI cI cJ cS (xa 0) (xa 9) (xa 15) (xa 23) im (xa 1) (xa 2) (xa 3) (xa 4) (xa 5) (xa 6) (xa 7) (xa 8) (Bw 0) (Bw 1) (rgB Bw) (spB Bw) (Bw 14) (Bw 39) nx kf wf sf (kdB Bw) (wdB Bw) Sh Rr Pr Pd r k (ok) (hr4) (hk2)) (cwV 2 hts gL_law_X4_rest rfl rfl rfl (by decide +kernel) ⟨Nat.le_of_ble_eq_true rfl, Nat.le_of_ble_eq_true rfl⟩) (rr_preV hKK (hP.sub [0, 1, 2, 3, 4, 5, 6, 7, 8] rfl) rfl rfl) rfl rfl hl.1 rfl (lv_room (Nat.le_of_ble_eq_true rfl)) dL_law_264 ⟨Nat.le_of_ble_eq_true rfl, Nat.le_of_ble_eq_true rfl⟩) ?_
    refine lv_aload_n hx hb dL_law_267 rfl (lv_at hl 2 rfl) ?_
    refine la_arg hx hb hX hbl hbA hS hl hL e1 (by omega) dL_law_268 dL_law_269 dL_law_270 (by decide) dL_law_271 dL_law_272 ?_
    refine la_arg hx hb hX hbl hbA hS hl hL e2 (by omega) dL_law_273 dL_law_274 dL_law_275 (by decide) dL_law_276 dL_law_277 ?_
    refine rr_callR (va_runV (As := [.int (nI r), .int (nI k)]) (rest := [.int (nI (Rr (r * 6 + k)))]) ⟨hx, hb, hml, hown, hts⟩ (c_X5_rest_g l dC dI cI cJ cS (xa 32) (xa 33) (xa 34) (xa 35) (xa 36) (xa 37) (xa 38) (xa 39) (xa 40) im tn at0 st0 nu rm rh Bw r k (hm) (hr4) (hk2)) (cwV 2 hts gL_law_X5_rest rfl rfl rfl (by decide +kernel) ⟨Nat.le_of_ble_eq_true rfl, Nat.le_of_ble_eq_true rfl⟩) (rr_preV hKK (hP.sub [32, 33] rfl) rfl rfl) rfl rfl hl.1 rfl (lv_room (Nat.le_of_ble_eq_true rfl)) dL_law_278 ⟨Nat.le_of_ble_eq_true rfl, Nat.le_of_ble_eq_true rfl⟩) ?_
    refine lv_icmp_eq (tgt := 1356) hx hb dL_law_281 (by decide) (fun _ => ?_) (fun c9 => absurd (congrArg nI (hre r k hr4 hk2)) c9)
    exact hk _ _ _ (LI_mk0 (nRl.rf q) (hkr) (ht) (hsr) hP hD hS hl)
set_option maxHeartbeats 4000000 in
set_option maxRecDepth 100000 in
theorem lc_undo (C0 : lwC p s m meth c b L xs dC dI cI cJ cS A aK aV) (hi : i + 6 ≤ L) (hk : ∀ (H : Heap) (locs : List Loc) (ls : Array Slot), LI dC dI cI cJ cS A s.heap xa sd sq b i H locs ls → W p l e room_1 s m #[Value.ref b] below meth c H locs 100 2000 (lw_Z below #[Value.ref b] s) (F0 m 1356 ls [])) (hI : LI dC dI cI cJ cS A s.heap xa sd sq b i H locs ls) : W p l e room_1 s m #[Value.ref b] below meth c H locs 100 2000 (lw_Z below #[Value.ref b] s) (F0 m 616 ls []) := by
  obtain ⟨hx, hb, hr, hml, hown, hts, hX, hbl, hlocks, hKK, hZ, hA, hbA, hL⟩ := C0
  obtain ⟨im, _, _, _, _, _, _, nx, kf, wf, sf, Rr, Pr, Pd, tn, tp, n2, h2, rg2, sp2, Tp, Kq, Wq, sf2, n1, h1, rg1, sp1, dr1, kn1, nx1, kf1, wf1, sf1, R1, P1, D1, Th, Ln, Sz, Rw, at0, st0, nu, rm, rh, Bw, It, Rs, Rd, Hl, ⟨rfl, rfl, rfl, rfl, rfl, rfl, q⟩, hkr, ht, hsr, hP, hD, hS, hl⟩ := hI
  have hm : mOk Bw := q.1
  have ok : wOk (Bw 0) (kdB Bw) (wdB Bw) := hm.1
  have fk : isA (Bw 0) kf (kdB Bw) := q.2.1
  have fw : isA (Bw 0) wf (wdB Bw) := q.2.2.1
  obtain ⟨Sh, fs, hSo⟩ := q.2.2.2.1
  have hre : reR (Bw 0) Rr Bw := q.2.2.2.2.1
  have hnx : nx < 8 := q.2.2.2.2.2.1
  have hSs : ∀ j, j < Bw 0 → Sh j < spB Bw := fun j hj => (hSo j hj).1
  have hsp : spB Bw ≤ 47045881 := (spB_b hm).2
  have hsp0 : 0 < spB Bw := (spB_b hm).1
  have hrg : rgB Bw < 2 ^ 31 := by have := (rgB_b hm).2; omega
  have hR : rOk (Bw 0) (wdB Bw) Rr := q.ro
  have hkn : Bw 39 ≤ 8 := hm.2.2.2.1
  have hh : Bw 1 ≤ Bw 0 := hm.2.1
  have h6 : Bw 0 ≤ 6 := hm.n
  obtain ⟨hz, hl3, hit⟩ := id hsr
  refine lv_aload_n hx hb dL_law_616 rfl (lv_at hl 1 rfl) ?_
  by_cases h0 : Bw 39 = 0
  · skip
    refine rr_callR (va_runV (As := []) (rest := []) ⟨hx, hb, hml, hown, hts⟩ (c_X4_undo_0 l dC dI cI cJ cS (xa 0) (xa 9) (xa 15) (xa 23) im (xa 1) (xa 2) (xa 3) (xa 4) (xa 5) (xa 6) (xa 7) (xa 8) (Bw 0) (Bw 1) (rgB Bw) (spB Bw) (Bw 14) (Bw 39) nx kf wf sf (kdB Bw) (wdB Bw) Sh Rr Pr Pd (h0)) (cwV 0 hts gL_law_X4_undo rfl rfl rfl (by decide +kernel) ⟨Nat.le_of_ble_eq_true rfl, Nat.le_of_ble_eq_true rfl⟩) (rr_preV hKK (hP.sub [0, 1, 2, 3, 4, 5, 6, 7, 8] rfl) rfl rfl) rfl rfl hl.1 rfl (lv_room (Nat.le_of_ble_eq_true rfl)) dL_law_617 ⟨Nat.le_of_ble_eq_true rfl, Nat.le_of_ble_eq_true rfl⟩) ?_
    refine lv_aload_n hx hb dL_law_620 rfl (lv_at hl 2 rfl) ?_
    refine rr_callR (va_runV (As := []) (rest := [.int (-4)]) ⟨hx, hb, hml, hown, hts⟩ (c_X5_undo_0 l dC dI cI cJ cS (xa 32) (xa 33) (xa 34) (xa 35) (xa 36) (xa 37) (xa 38) (xa 39) (xa 40) im tn at0 st0 nu rm rh Bw (h0)) (cwV 0 hts gL_law_X5_undo rfl rfl rfl (by decide +kernel) ⟨Nat.le_of_ble_eq_true rfl, Nat.le_of_ble_eq_true rfl⟩) (rr_preV hKK (hP.sub [32, 33] rfl) rfl rfl) rfl rfl hl.1 rfl (lv_room (Nat.le_of_ble_eq_true rfl)) dL_law_621 ⟨Nat.le_of_ble_eq_true rfl, Nat.le_of_ble_eq_true rfl⟩) ?_
    refine lv_icmp_eq (tgt := 1356) hx hb dL_law_624 (by decide) (fun _ => ?_) (fun c9 => absurd (rfl) c9)
    exact hk _ _ _ (LI_mk0 (nRl.rf q) (hkr) (ht) (hsr) hP hD hS hl)
  · have h00 : 0 < Bw 39 := by omega
    refine lq_calli (va_runV (As := []) (rest := []) ⟨hx, hb, hml, hown, hts⟩ (c_X4_undo_1 l dC dI cI cJ cS _ (xa 0) (xa 9) (xa 15) (xa 23) im (xa 1) (xa 2) (xa 3) (xa 4) (xa 5) (xa 6) (xa 7) (xa 8) (Bw 0) (Bw 1) (rgB Bw) (spB Bw) (Bw 14) (Bw 39) nx kf wf sf (kdB Bw) (wdB Bw) Sh Rr Pr Pd (h00) (hkn) (hnx)) (cwV 0 hts gL_law_X4_undo rfl rfl rfl (by decide +kernel) ⟨Nat.le_of_ble_eq_true rfl, Nat.le_of_ble_eq_true rfl⟩) (rw_preV hKK (hP.sub [0, 1, 2, 3, 4, 5, 6, 7, 8] rfl) (hD.sub [0, 1, 2, 3, 4, 5, 6, 7, 8] (by decide) rfl) rfl rfl) rfl rfl hl.1 rfl (lv_room (Nat.le_of_ble_eq_true rfl)) dL_law_617 ⟨Nat.le_of_ble_eq_true rfl, Nat.le_of_ble_eq_true rfl⟩) hP hD hS hA [0, 1, 2, 3, 4, 5, 6, 7, 8] [9, 10, 11, 12, 13, 14, 15, 16, 17, 18, 19, 20, 21, 22, 23, 24, 25, 26, 27, 28, 29, 30, 31, 32, 33, 34, 35, 36, 37, 38, 39, 40] rfl rfl (by decide) (by decide) [32, 33, 34, 35, 36, 37, 38, 39, 40, 0, 1, 2, 3, 4, 5, 6, 7, 8, 9, 10, 11, 12, 13, 14, 15, 16, 17, 18, 19, 20, 21, 22, 23, 24, 25, 26, 27, 28, 29, 30, 31] (lawW cI cJ cS xa sd sq im (Bw 0) (Bw 1) (rgB Bw) (spB Bw) (Pd ((nx + 8 - 1) % 8)) ((Bw 39) - 1) ((nx + 8 - 1) % 8) kf wf sf (cpN Pr Rr ((nx + 8 - 1) % 8 * 24) 0 24) Pr Pd tn tp n2 h2 rg2 sp2 Tp Kq Wq sf2 n1 h1 rg1 sp1 dr1 kn1 nx1 kf1 wf1 sf1 R1 P1 D1 0 (Th 0) (Ln 0) (Sz 0) (Rw 0) 1 (Th 1) (Ln 1) (Sz 1) (Rw 1) 2 (Th 2) (Ln 2) (Sz 2) (Rw 2) 3 (Th 3) (Ln 3) (Sz 3) (Rw 3) im tn at0 st0 nu rm rh Bw Tp (laF Th Ln) Sz It Rs Rd Hl) (by decide) rfl (fun H locs hP hD hS => ?_)
    refine lv_aload_n hx hb dL_law_620 rfl (lv_at hl 2 rfl) ?_
    refine lq_calli (va_runV (As := []) (rest := [.int (nI ((Bw 39) - 1))]) ⟨hx, hb, hml, hown, hts⟩ (c_X5_undo_1 l dC dI cI cJ cS _ (xa 32) (xa 33) (xa 34) (xa 35) (xa 36) (xa 37) (xa 38) (xa 39) (xa 40) im tn at0 st0 nu rm rh Bw (h00) (hkn)) (cwV 0 hts gL_law_X5_undo rfl rfl rfl (by decide +kernel) ⟨Nat.le_of_ble_eq_true rfl, Nat.le_of_ble_eq_true rfl⟩) (rw_preV hKK (hP.sub [32, 33] rfl) (hD.sub [32, 33] (by decide) rfl) rfl rfl) rfl rfl hl.1 rfl (lv_room (Nat.le_of_ble_eq_true rfl)) dL_law_621 ⟨Nat.le_of_ble_eq_true rfl, Nat.le_of_ble_eq_true rfl⟩) hP hD hS hA [32, 33] [0, 1, 2, 3, 4, 5, 6, 7, 8, 9, 10, 11, 12, 13, 14, 15, 16, 17, 18, 19, 20, 21, 22, 23, 24, 25, 26, 27, 28, 29, 30, 31, 34, 35, 36, 37, 38, 39, 40] rfl rfl (by decide) (by decide) [0, 1, 2, 3, 4, 5, 6, 7, 8, 9, 10, 11, 12, 13, 14, 15, 16, 17, 18, 19, 20, 21, 22, 23, 24, 25, 26, 27, 28, 29, 30, 31, 39, 40, 32, 33, 34, 35, 36, 37, 38] (lawW cI cJ cS xa sd sq im (Bw 0) (Bw 1) (rgB Bw) (spB Bw) (Pd ((nx + 8 - 1) % 8)) ((Bw 39) - 1) ((nx + 8 - 1) % 8) kf wf sf (cpN Pr Rr ((nx + 8 - 1) % 8 * 24) 0 24) Pr Pd tn tp n2 h2 rg2 sp2 Tp Kq Wq sf2 n1 h1 rg1 sp1 dr1 kn1 nx1 kf1 wf1 sf1 R1 P1 D1 0 (Th 0) (Ln 0) (Sz 0) (Rw 0) 1 (Th 1) (Ln 1) (Sz 1) (Rw 1) 2 (Th 2) (Ln 2) (Sz 2) (Rw 2) 3 (Th 3) (Ln 3) (Sz 3) (Rw 3) im tn at0 st0 nu rm rh (udB Bw) Tp (laF Th Ln) Sz It Rs Rd Hl) (by decide) rfl (fun H locs hP hD hS => ?_)
    refine lv_icmp_eq (tgt := 1356) hx hb dL_law_624 (by decide) (fun _ => ?_) (fun c9 => absurd (rfl) c9)
    exact hk _ _ _ (LI_mk0 (nRl.undo q h00) (hkr.mv (fun j hj => udB_far (by omega))) (ht) (hsr) hP hD hS hl)
end LC
