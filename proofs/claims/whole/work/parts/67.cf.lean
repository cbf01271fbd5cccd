section LC
variable {p : Program} {l : Launch} {e : Env} {s : State} {m : MethodId} {below : List Frame} {meth : Method} {c : Code} {b L : Nat} {xs : Nat → Int32} {dC : Nat → ClassId} {dI : Nat → Nat → Nat} {cI cJ cS : ClassId} {A : Nat → Prop} {aK aV : Nat} {xa sd sq : Nat → Nat} {i : Nat} {H : Heap} {locs : List Loc} {ls : Array Slot}
set_option maxHeartbeats 4000000 in
set_option maxRecDepth 100000 in
theorem lc_sum (C0 : lwC p s m meth c b L xs dC dI cI cJ cS A aK aV) (hi : i + 6 ≤ L) (hk : ∀ (H : Heap) (locs : List Loc) (ls : Array Slot), LI dC dI cI cJ cS A s.heap xa sd sq b i H locs ls → W p l e room_1 s m #[Value.ref b] below meth c H locs 100 2000 (lw_Z below #[Value.ref b] s) (F0 m 1356 ls [])) (hI : LI dC dI cI cJ cS A s.heap xa sd sq b i H locs ls) : W p l e room_1 s m #[Value.ref b] below meth c H locs 100 2000 (lw_Z below #[Value.ref b] s) (F0 m 787 ls []) := by
  obtain ⟨hx, hb, hr, hml, hown, hts, hX, hbl, hlocks, hKK, hZ, hA, hbA, hL⟩ := C0
  obtain ⟨im, _, _, _, _, _, _, nx, kf, wf, sf, Rr, Pr, Pd, tn, tp, n2, h2, rg2, sp2, Tp, Kq, Wq, sf2, n1, h1, rg1, sp1, dr1, kn1, nx1, kf1, wf1, sf1, R1, P1, D1, Th, Ln, Sz, Rw, at0, st0, nu, rm, rh, Bw, It, Rs, Rd, Hl, ⟨rfl, rfl, rfl, rfl, rfl, rfl, q⟩, hkr, ht, hsr, hP, hD, hS, hl⟩ := hI
  have hm : mOk Bw := q.1
  have ok : wOk (Bw 0) (kdB Bw) (wdB Bw) := hm.1
  have fk : isA (Bw 0) kf (kdB Bw) := q.2.1
  have fw : isA (Bw 0) wf (wdB Bw) := q.2.2.1
  obtain ⟨Sh, fs, hSo⟩ := q.2.2.2.1
  have hre : reR (Bw 0) Rr Bw := q.2.2.2.2.1
  have hnx : nx < 8 := q.2.2.2.2.2.1
  have hSs : ∀ j, j < Bw 0 → Sh j < spB Bw := fun j hj => (hSo j hj).1
  have hsp : spB Bw ≤ 47045881 := (spB_b hm).2
  have hsp0 : 0 < spB Bw := (spB_b hm).1
  have hrg : rgB Bw < 2 ^ 31 := by have := (rgB_b hm).2; omega
  have hR : rOk (Bw 0) (wdB Bw) Rr := q.ro
  have hkn : Bw 39 ≤ 8 := hm.2.2.2.1
  have hh : Bw 1 ≤ Bw 0 := hm.2.1
  have h6 : Bw 0 ≤ 6 := hm.n
  obtain ⟨hz, hl3, hit⟩ := id hsr
  obtain ⟨v1, e1⟩ : ∃ v, xs (i + 1) = v := ⟨_, rfl⟩
  obtain ⟨v2, e2⟩ : ∃ v, xs (i + 2) = v := ⟨_, rfl⟩
  obtain ⟨v3, e3⟩ : ∃ v, xs (i + 3) = v := ⟨_, rfl⟩
  obtain ⟨v4, e4⟩ : ∃ v, xs (i + 4) = v := ⟨_, rfl⟩
  refine lv_aload_n hx hb dL_law_787 rfl (lv_at hl 1 rfl) ?_
  refine la_arg hx hb hX hbl hbA hS hl hL e1 (by omega) dL_law_788 dL_law_789 dL_law_790 (by decide) dL_law_791 dL_law_792 ?_
  refine la_arg hx hb hX hbl hbA hS hl hL e2 (by omega) dL_law_793 dL_law_794 dL_law_795 (by decide) dL_law_796 dL_law_797 ?_
  refine la_arg hx hb hX hbl hbA hS hl hL e3 (by omega) dL_law_798 dL_law_799 dL_law_800 (by decide) dL_law_801 dL_law_802 ?_
  refine la_arg hx hb hX hbl hbA hS hl hL e4 (by omega) dL_law_803 dL_law_804 dL_law_805 (by decide) dL_law_806 dL_law_807 ?_
  by_cases hbad : (inb v1 4 && inb v2 4 && inb v3 1001 && inb v4 (Bw 0)) = false
  · skip
    refine rr_callR (va_runV (As := [.int v1, .int v2, .int v3, .int v4]) (rest := []) ⟨hx, hb, hml, hown, hts⟩ (c_X4_sum_b l dC dI cI cJ cS (xa 0) (xa 9) (xa 15) (xa 23) im (xa 1) (xa 2) (xa 3) (xa 4) (xa 5) (xa 6) (xa 7) (xa 8) (Bw 0) (Bw 1) (rgB Bw) (spB Bw) (Bw 14) (Bw 39) nx kf wf sf (kdB Bw) (wdB Bw) Sh Rr Pr Pd v1 v2 v3 v4 (ok) (fw) (hbad)) (cwV 4 hts gL_law_X4_sum rfl rfl rfl (by decide +kernel) ⟨Nat.le_of_ble_eq_true rfl, Nat.le_of_ble_eq_true rfl⟩) (rr_preV hKK (hP.sub [0, 1, 2, 3, 4, 5, 6, 7, 8] rfl) rfl rfl) rfl rfl hl.1 rfl (lv_room (Nat.le_of_ble_eq_true rfl)) dL_law_808 ⟨Nat.le_of_ble_eq_true rfl, Nat.le_of_ble_eq_true rfl⟩) ?_
    refine lv_aload_n hx hb dL_law_811 rfl (lv_at hl 2 rfl) ?_
    refine la_arg hx hb hX hbl hbA hS hl hL e1 (by omega) dL_law_812 dL_law_813 dL_law_814 (by decide) dL_law_815 dL_law_816 ?_
    refine la_arg hx hb hX hbl hbA hS hl hL e2 (by omega) dL_law_817 dL_law_818 dL_law_819 (by decide) dL_law_820 dL_law_821 ?_
    refine la_arg hx hb hX hbl hbA hS hl hL e3 (by omega) dL_law_822 dL_law_823 dL_law_824 (by decide) dL_law_825 dL_law_826 ?_
    refine la_arg hx hb hX hbl hbA hS hl hL e4 (by omega) dL_law_827 dL_law_828 dL_law_829 (by decide) dL_law_830 dL_law_831 ?_
    refine rr_callR (va_runV (As := [.int v1, .int v2, .int v3, .int v4]) (rest := [.int (-1)]) ⟨hx, hb, hml, hown, hts⟩ (c_X5_sum_b l dC dI cI cJ cS (xa 32) (xa 33) (xa 34) (xa 35) (xa 36) (xa 37) (xa 38) (xa 39) (xa 40) im tn at0 st0 nu rm rh Bw v1 v2 v3 v4 (hm) (hbad)) (cwV 4 hts gL_law_X5_sum rfl rfl rfl (by decide +kernel) ⟨Nat.le_of_ble_eq_true rfl, Nat.le_of_ble_eq_true rfl⟩) (rr_preV hKK (hP.sub [32, 33] rfl) rfl rfl) rfl rfl hl.1 rfl (lv_room (Nat.le_of_ble_eq_true rfl)) dL_law_832 ⟨Nat.le_of_ble_eq_true rfl, Nat.le_of_ble_eq_true rfl⟩) ?_
    refine lv_icmp_eq (tgt := 1356) hx hb dL_law_835 (by decide) (fun _ => ?_) (fun c9 => absurd (rfl) c9)
    exact hk _ _ _ (LI_mk0 (nRl.rf q) (hkr) (ht) (hsr) hP hD hS hl)
  · simp only [Bool.not_eq_false, Bool.and_eq_true] at hbad
    obtain ⟨r, hr4, rfl⟩ := inb_of (by decide) hbad.1.1.1
    obtain ⟨o, ho4, rfl⟩ := inb_of (by decide) hbad.1.1.2
    obtain ⟨t, ht3, rfl⟩ := inb_of (by decide) hbad.1.2
    obtain ⟨k, hk2, rfl⟩ := inb_of (by omega) hbad.2
    have ht2 : t ≤ 1000 := by omega
    refine rr_callR (va_runV (As := [.int (nI r), .int (nI o), .int (nI t), .int (nI k)]) (rest := []) ⟨hx, hb, hml, hown, hts⟩ (c_X4_sum_g l dC dI cI cJ cS (xa 0) (xa 9) (xa 15) (xa 23) im (xa 1) (xa 2) (xa 3) (xa 4) (xa 5) (xa 6) (xa 7) (xa 8) (Bw 0) (Bw 1) (rgB Bw) (spB Bw) (Bw 14) (Bw 39) nx kf wf sf (kdB Bw) (wdB Bw) Sh Rr Pr Pd r o t k (ok) (fk) (fw) (fs) (hSs) (hsp) (hsp0) (hR) (hrg) (hr4) (ho4) (ht2) (hk2)) (cwV 4 hts gL_law_X4_sum rfl rfl rfl (by decide +kernel) ⟨Nat.le_of_ble_eq_true rfl, Nat.le_of_ble_eq_true rfl⟩) (rr_preV hKK (hP.sub [0, 1, 2, 3, 4, 5, 6, 7, 8] rfl) rfl rfl) rfl rfl hl.1 rfl (lv_room (Nat.le_of_ble_eq_true rfl)) dL_law_808 ⟨Nat.le_of_ble_eq_true rfl, Nat.le_of_ble_eq_true rfl⟩) ?_
    refine lv_aload_n hx hb dL_law_811 rfl (lv_at hl 2 rfl) ?_
    refine la_arg hx hb hX hbl hbA hS hl hL e1 (by omega) dL_law_812 dL_law_813 dL_law_814 (by decide) dL_law_815 dL_law_816 ?_
    refine la_arg hx hb hX hbl hbA hS hl hL e2 (by omega) dL_law_817 dL_law_818 dL_law_819 (by decide) dL_law_820 dL_law_821 ?_
    refine la_arg hx hb hX hbl hbA hS hl hL e3 (by omega) dL_law_822 dL_law_823 dL_law_824 (by decide) dL_law_825 dL_law_826 ?_
    refine la_arg hx hb hX hbl hbA hS hl hL e4 (by omega) dL_law_827 dL_law_828 dL_law_829 (by decide) dL_law_830 dL_law_831 ?_
    refine rr_callR (va_runV (As := [.int (nI r), .int (nI o), .int (nI t), .int (nI k)]) (rest := [.int (nI (addO ((kdB Bw) k) ((wdB Bw) k) (Rr (r * 6 + k)) (Rr (o * 6 + k)) t))]) ⟨hx, hb, hml, hown, hts⟩ (c_X5_sum_g l dC dI cI cJ cS (xa 32) (xa 33) (xa 34) (xa 35) (xa 36) (xa 37) (xa 38) (xa 39) (xa 40) im tn at0 st0 nu rm rh Bw r o t k (hm) (hr4) (ho4) (ht2) (hk2)) (cwV 4 hts gL_law_X5_sum rfl rfl rfl (by decide +kernel) ⟨Nat.le_of_ble_eq_true rfl, Nat.le_of_ble_eq_true rfl⟩) (rr_preV hKK (hP.sub [32, 33] rfl) rfl rfl) rfl rfl hl.1 rfl (lv_room (Nat.le_of_ble_eq_true rfl)) dL_law_832 ⟨Nat.le_of_ble_eq_true rfl, Nat.le_of_ble_eq_true rfl⟩) ?_
    refine lv_icmp_eq (tgt := 1356) hx hb dL_law_835 (by decide) (fun _ => ?_) (fun c9 => absurd (by rw [hre r k hr4 hk2, hre o k ho4 hk2]) c9)
    exact hk _ _ _ (LI_mk0 (nRl.rf q) (hkr) (ht) (hsr) hP hD hS hl)
set_option maxHeartbeats 4000000 in
set_option maxRecDepth 100000 in
theorem lc_again (C0 : lwC p s m meth c b L xs dC dI cI cJ cS A aK aV) (hi : i + 6 ≤ L) (hk : ∀ (H : Heap) (locs : List Loc) (ls : Array Slot), LI dC dI cI cJ cS A s.heap xa sd sq b i H locs ls → W p l e room_1 s m #[Value.ref b] below meth c H locs 100 2000 (lw_Z below #[Value.ref b] s) (F0 m 1356 ls [])) (hI : LI dC dI cI cJ cS A s.heap xa sd sq b i H locs ls) : W p l e room_1 s m #[Value.ref b] below meth c H locs 100 2000 (lw_Z below #[Value.ref b] s) (F0 m 840 ls []) := by
  obtain ⟨hx, hb, hr, hml, hown, hts, hX, hbl, hlocks, hKK, hZ, hA, hbA, hL⟩ := C0
  obtain ⟨im, _, _, _, _, _, _, nx, kf, wf, sf, Rr, Pr, Pd, tn, tp, n2, h2, rg2, sp2, Tp, Kq, Wq, sf2, n1, h1, rg1, sp1, dr1, kn1, nx1, kf1, wf1, sf1, R1, P1, D1, Th, Ln, Sz, Rw, at0, st0, nu, rm, rh, Bw, It, Rs, Rd, Hl, ⟨rfl, rfl, rfl, rfl, rfl, rfl, q⟩, hkr, ht, hsr, hP, hD, hS, hl⟩ := hI
  have hm : mOk Bw := q.1
  have ok : wOk (Bw 0) (kdB Bw) (wdB Bw) := hm.1
  have fk : isA (Bw 0) kf (kdB Bw) := q.2.1
  have fw : isA (Bw 0) wf (wdB Bw) := q.2.2.1
  obtain ⟨Sh, fs, hSo⟩ := q.2.2.2.1
  have hre : reR (Bw 0) Rr Bw := q.2.2.2.2.1
  have hnx : nx < 8 := q.2.2.2.2.2.1
  have hSs : ∀ j, j < Bw 0 → Sh j < spB Bw := fun j hj => (hSo j hj).1
  have hsp : spB Bw ≤ 47045881 := (spB_b hm).2
  have hsp0 : 0 < spB Bw := (spB_b hm).1
  have hrg : rgB Bw < 2 ^ 31 := by have := (rgB_b hm).2; omega
  have hR : rOk (Bw 0) (wdB Bw) Rr := q.ro
  have hkn : Bw 39 ≤ 8 := hm.2.2.2.1
  have hh : Bw 1 ≤ Bw 0 := hm.2.1
  have h6 : Bw 0 ≤ 6 := hm.n
  obtain ⟨hz, hl3, hit⟩ := id hsr
  obtain ⟨v1, e1⟩ : ∃ v, xs (i + 1) = v := ⟨_, rfl⟩
  obtain ⟨v2, e2⟩ : ∃ v, xs (i + 2) = v := ⟨_, rfl⟩
  refine lv_aload_n hx hb dL_law_840 rfl (lv_at hl 1 rfl) ?_
  refine la_arg hx hb hX hbl hbA hS hl hL e1 (by omega) dL_law_841 dL_law_842 dL_law_843 (by decide) dL_law_844 dL_law_845 ?_
  refine la_arg hx hb hX hbl hbA hS hl hL e2 (by omega) dL_law_846 dL_law_847 dL_law_848 (by decide) dL_law_849 dL_law_850 ?_
  by_cases hbad : (inb v1 4 && inb v2 4) = false
  · skip
    refine rr_callR (va_runV (As := [.int v1, .int v2]) (rest := []) ⟨hx, hb, hml, hown, hts⟩ (c_X4_again_b l dC dI cI cJ cS (xa 0) (xa 9) (xa 15) (xa 23) im (xa 1) (xa 2) (xa 3) (xa 4) (xa 5) (xa 6) (xa 7) (xa 8) (Bw 0) (Bw 1) (rgB Bw) (spB Bw) (Bw 14) (Bw 39) nx kf wf sf (kdB Bw) (wdB Bw) Sh Rr Pr Pd v1 v2 (ok) (fw) (hbad)) (cwV 2 hts gL_law_X4_again rfl rfl rfl (by decide +kernel) ⟨Nat.le_of_ble_eq_true rfl, Nat.le_of_ble_eq_true rfl⟩) (rr_preV hKK (hP.sub [0, 1, 2, 3, 4, 5, 6, 7, 8] rfl) rfl rfl) rfl rfl hl.1 rfl (lv_room (Nat.le_of_ble_eq_true rfl)) dL_law_851 ⟨Nat.le_of_ble_eq_true rfl, Nat.le_of_ble_eq_true rfl⟩) ?_
    refine lv_aload_n hx hb dL_law_854 rfl (lv_at hl 2 rfl) ?_
    refine la_arg hx hb hX hbl hbA hS hl hL e1 (by omega) dL_law_855 dL_law_856 dL_law_857 (by decide) dL_law_858 dL_law_859 ?_
    refine la_arg hx hb hX hbl hbA hS hl hL e2 (by omega) dL_law_860 dL_law_861 dL_law_862 (by decide) dL_law_863 dL_law_864 ?_
    refine rr_callR (va_runV (As := [.int v1, .int v2]) (rest := [.int (-1)]) ⟨hx, hb, hml, hown, hts⟩ (c_X5_again_b l dC dI cI cJ cS (xa 32) (xa 33) (xa 34) (xa 35) (xa 36) (xa 37) (xa 38) (xa 39) (xa 40) im tn at0 st0 nu rm rh Bw v1 v2 (hm) (hbad)) (cwV 2 hts gL_law_X5_again rfl rfl rfl (by decide +kernel) ⟨Nat.le_of_ble_eq_true rfl, Nat.le_of_ble_eq_true rfl⟩) (rr_preV hKK (hP.sub [32, 33] rfl) rfl rfl) rfl rfl hl.1 rfl (lv_room (Nat.le_of_ble_eq_true rfl)) dL_law_865 ⟨Nat.le_of_ble_eq_true rfl, Nat.le_of_ble_eq_true rfl⟩) ?_
    refine lv_icmp_eq (tgt := 1356) hx hb dL_law_868 (by decide) (fun _ => ?_) (fun c9 => absurd (rfl) c9)
    exact hk _ _ _ (LI_mk0 (nRl.rf q) (hkr) (ht) (hsr) hP hD hS hl)
  · simp only [Bool.not_eq_false, Bool.and_eq_true] at hbad
    obtain ⟨r, hr4, rfl⟩ := inb_of (by decide) hbad.1
    obtain ⟨o, ho4, rfl⟩ := inb_of (by decide) hbad.2
    refine rr_callR (va_runV (As := [.int (nI r), .int (nI o)]) (rest := []) ⟨hx, hb, hml, hown, hts⟩ (c_X4_again_g l dC dI cI cJ cS (xa 0) (xa 9) (xa 15) (xa 23) im (xa 1) (xa 2) (xa 3) (xa 4) (xa 5) (xa 6) (xa 7) (xa 8) (Bw 0) (Bw 1) (rgB Bw) (spB Bw) (Bw 14) (Bw 39) nx kf wf sf (kdB Bw) (wdB Bw) Sh Rr Pr Pd r o (ok) (fk) (fw) (fs) (hSs) (hsp) (hsp0) (hR) (hrg) (hr4) (ho4)) (cwV 2 hts gL_law_X4_again rfl rfl rfl (by decide +kernel) ⟨Nat.le_of_ble_eq_true rfl, Nat.le_of_ble_eq_true rfl⟩) (rr_preV hKK (hP.sub [0, 1, 2, 3, 4, 5, 6, 7, 8] rfl) rfl rfl) rfl rfl hl.1 rfl (lv_room (Nat.le_of_ble_eq_true rfl)) dL_law_851 ⟨Nat.le_of_ble_eq_true rfl, Nat.le_of_ble_eq_true rfl⟩) ?_
    refine lv_aload_n hx hb dL_law_854 rfl (lv_at hl 2 rfl) ?_
    refine la_arg hx hb hX hbl hbA hS hl hL e1 (by omega) dL_law_855 dL_law_856 dL_law_857 (by decide) dL_law_858 dL_law_859 ?_
    refine la_arg hx hb hX hbl hbA hS hl hL e2 (by omega) dL_law_860 dL_law_861 dL_law_862 (by decide) dL_law_863 dL_law_864 ?_
    refine lq_callis (va_runV (As := [.int (nI r), .int (nI o)]) (rest := [.int (agC (rnF (kdB Bw) (wdB Bw) Rr r o) (Bw 0))]) ⟨hx, hb, hml, hown, hts⟩ (c_X5_again_g l dC dI cI cJ cS _ (xa 32) (xa 33) (xa 34) (xa 35) (xa 36) (xa 37) (xa 38) (xa 39) (xa 40) im tn at0 st0 nu rm rh Bw Rs r o (hm) (hr4) (ho4)) (cwV 2 hts gL_law_X5_again rfl rfl rfl (by decide +kernel) ⟨Nat.le_of_ble_eq_true rfl, Nat.le_of_ble_eq_true rfl⟩) (rw_preV hKK (hP.sub [32, 33, 38] rfl) (hD.sub [32, 33, 38] (by decide) rfl) rfl rfl) rfl rfl hl.1 rfl (lv_room (Nat.le_of_ble_eq_true rfl)) dL_law_865 ⟨Nat.le_of_ble_eq_true rfl, Nat.le_of_ble_eq_true rfl⟩) hP hD hS hA [32, 33, 38] [0, 1, 2, 3, 4, 5, 6, 7, 8, 9, 10, 11, 12, 13, 14, 15, 16, 17, 18, 19, 20, 21, 22, 23, 24, 25, 26, 27, 28, 29, 30, 31, 34, 35, 36, 37, 39, 40] rfl rfl (by decide) (by decide) [0, 1, 2, 3, 4, 5, 6, 7, 8, 9, 10, 11, 12, 13, 14, 15, 16, 17, 18, 19, 20, 21, 22, 23, 24, 25, 26, 27, 28, 29, 30, 31, 38, 39, 32, 33, 34, 35, 40, 36, 37] (fun uq => (lawW cI cJ cS xa sd sq im (Bw 0) (Bw 1) (rgB Bw) (spB Bw) (Bw 14) (Bw 39) nx kf wf sf Rr Pr Pd tn tp n2 h2 rg2 sp2 Tp Kq Wq sf2 n1 h1 rg1 sp1 dr1 kn1 nx1 kf1 wf1 sf1 R1 P1 D1 0 (Th 0) (Ln 0) (Sz 0) (Rw 0) 1 (Th 1) (Ln 1) (Sz 1) (Rw 1) 2 (Th 2) (Ln 2) (Sz 2) (Rw 2) 3 (Th 3) (Ln 3) (Sz 3) (Rw 3) im tn at0 st0 nu rm rh Bw Tp (laF Th Ln) Sz It uq Rd Hl)) (by decide) (fun _ => rfl) (fun Rq1 H locs hP hD hS => ?_)
    refine lv_icmp_eq (tgt := 1356) hx hb dL_law_868 (by decide) (fun _ => ?_) (fun c9 => absurd (ag_eq hm hre hr4 ho4) c9)
    exact hk _ _ _ (LI_mk0 (nRl.rf q) (hkr) (ht) (hsr) hP hD hS hl)
set_option maxHeartbeats 4000000 in
set_option maxRecDepth 100000 in
theorem lc_should (C0 : lwC p s m meth c b L xs dC dI cI cJ cS A aK aV) (hi : i + 6 ≤ L) (hk : ∀ (H : Heap) (locs : List Loc) (ls : Array Slot), LI dC dI cI cJ cS A s.heap xa sd sq b i H locs ls → W p l e room_1 s m #[Value.ref b] below meth c H locs 100 2000 (lw_Z below #[Value.ref b] s) (F0 m 1356 ls [])) (hI : LI dC dI cI cJ cS A s.heap xa sd sq b i H locs ls) : W p l e room_1 s m #[Value.ref b] below meth c H locs 100 2000 (lw_Z below #[Value.ref b] s) (F0 m 873 ls []) := by
  obtain ⟨hx, hb, hr, hml, hown, hts, hX, hbl, hlocks, hKK, hZ, hA, hbA, hL⟩ := C0
  obtain ⟨im, _, _, _, _, _, _, nx, kf, wf, sf, Rr, Pr, Pd, tn, tp, n2, h2, rg2, sp2, Tp, Kq, Wq, sf2, n1, h1, rg1, sp1, dr1, kn1, nx1, kf1, wf1, sf1, R1, P1, D1, Th, Ln, Sz, Rw, at0, st0, nu, rm, rh, Bw, It, Rs, Rd, Hl, ⟨rfl, rfl, rfl, rfl, rfl, rfl, q⟩, hkr, ht, hsr, hP, hD, hS, hl⟩ := hI
  have hm : mOk Bw := q.1
  have ok : wOk (Bw 0) (kdB Bw) (wdB Bw) := hm.1
  have fk : isA (Bw 0) kf (kdB Bw) := q.2.1
  have fw : isA (Bw 0) wf (wdB Bw) := q.2.2.1
  obtain ⟨Sh, fs, hSo⟩ := q.2.2.2.1
  have hre : reR (Bw 0) Rr Bw := q.2.2.2.2.1
  have hnx : nx < 8 := q.2.2.2.2.2.1
  have hSs : ∀ j, j < Bw 0 → Sh j < spB Bw := fun j hj => (hSo j hj).1
  have hsp : spB Bw ≤ 47045881 := (spB_b hm).2
  have hsp0 : 0 < spB Bw := (spB_b hm).1
  have hrg : rgB Bw < 2 ^ 31 := by have := (rgB_b hm).2; omega
  have hR : rOk (Bw 0) (wdB Bw) Rr := q.ro
  have hkn : Bw 39 ≤ 8 := hm.2.2.2.1
  have hh : Bw 1 ≤ Bw 0 := hm.2.1
  have h6 : Bw 0 ≤ 6 := hm.n
  obtain ⟨hz, hl3, hit⟩ := id hsr
  obtain ⟨v1, e1⟩ : ∃ v, xs (i + 1) = v := ⟨_, rfl⟩
  obtain ⟨v2, e2⟩ : ∃ v, xs (i + 2) = v := ⟨_, rfl⟩
  refine lv_aload_n hx hb dL_law_873 rfl (lv_at hl 1 rfl) ?_
  refine la_arg hx hb hX hbl hbA hS hl hL e1 (by omega) dL_law_874 dL_law_875 dL_law_876 (by decide) dL_law_877 dL_law_878 ?_
  refine la_arg hx hb hX hbl hbA hS hl hL e2 (by omega) dL_law_879 dL_law_880 dL_law_881 (by decide) dL_law_882 dL_law_883 ?_
  by_cases hbad : (inb v1 4 && inb v2 4) = false
  · skip
    refine rr_callR (va_runV (As := [.int v1, .int v2]) (rest := []) ⟨hx, hb, hml, hown, hts⟩ (c_X4_should_b l dC dI cI cJ cS (xa 0) (xa 9) (xa 15) (xa 23) im (xa 1) (xa 2) (xa 3) (xa 4) (xa 5) (xa 6) (xa 7) (xa 8) (Bw 0) (Bw 1) (rgB Bw) (spB Bw) (Bw 14) (Bw 39) nx kf wf sf (kdB Bw) (wdB Bw) Sh Rr Pr Pd v1 v2 (ok) (fw) (hbad)) (cwV 2 hts gL_law_X4_should rfl rfl rfl (by decide +kernel) ⟨Nat.le_of_ble_eq_true rfl, Nat.le_of_ble_eq_true rfl⟩) (rr_preV hKK (hP.sub [0, 1, 2, 3, 4, 5, 6, 7, 8] rfl) rfl rfl) rfl rfl hl.1 rfl (lv_room (Nat.le_of_ble_eq_true rfl)) dL_law_884 ⟨Nat.le_of_ble_eq_true rfl, Nat.le_of_ble_eq_true rfl⟩) ?_
    refine lv_aload_n hx hb dL_law_887 rfl (lv_at hl 2 rfl) ?_
    refine la_arg hx hb hX hbl hbA hS hl hL e1 (by omega) dL_law_888 dL_law_889 dL_law_890 (by decide) dL_law_891 dL_law_892 ?_
    refine la_arg hx hb hX hbl hbA hS hl hL e2 (by omega) dL_law_893 dL_law_894 dL_law_895 (by decide) dL_law_896 dL_law_897 ?_
    refine rr_callR (va_runV (As := [.int v1, .int v2]) (rest := [.int (-1)]) ⟨hx, hb, hml, hown, hts⟩ (c_X5_should_b l dC dI cI cJ cS (xa 32) (xa 33) (xa 34) (xa 35) (xa 36) (xa 37) (xa 38) (xa 39) (xa 40) im tn at0 st0 nu rm rh Bw v1 v2 (hm) (hbad)) (cwV 2 hts gL_law_X5_should rfl rfl rfl (by decide +kernel) ⟨Nat.le_of_ble_eq_true rfl, Nat.le_of_ble_eq_true rfl⟩) (rr_preV hKK (hP.sub [32, 33] rfl) rfl rfl) rfl rfl hl.1 rfl (lv_room (Nat.le_of_ble_eq_true rfl)) dL_law_898 ⟨Nat.le_of_ble_eq_true rfl, Nat.le_of_ble_eq_true rfl⟩) ?_
    refine lv_icmp_eq (tgt := 1356) hx hb dL_law_901 (by decide) (fun _ => ?_) (fun c9 => absurd (rfl) c9)
    exact hk _ _ _ (LI_mk0 (nRl.rf q) (hkr) (ht) (hsr) hP hD hS hl)
  · simp only [Bool.not_eq_false, Bool.and_eq_true] at hbad
    obtain ⟨r, hr4, rfl⟩ := inb_of (by decide) hbad.1
    obtain ⟨o, ho4, rfl⟩ := inb_of (by decide) hbad.2
    refine rr_callR (va_runV (As := [.int (nI r), .int (nI o)]) (rest := []) ⟨hx, hb, hml, hown, hts⟩ (c_X4_should_g l dC dI cI cJ cS (xa 0) (xa 9) (xa 15) (xa 23) im (xa 1) (xa 2) (xa 3) (xa 4) (xa 5) (xa 6) (xa 7) (xa 8) (Bw 0) (Bw 1) (rgB Bw) (spB Bw) (Bw 14) (Bw 39) nx kf wf sf (kdB Bw) (wdB Bw) Sh Rr Pr Pd r o (ok) (fk) (fw) (fs) (hSs) (hsp) (hsp0) (hR) (hrg) (hr4) (ho4)) (cwV 2 hts gL_law_X4_should rfl rfl rfl (by decide +kernel) ⟨Nat.le_of_ble_eq_true rfl, Nat.le_of_ble_eq_true rfl⟩) (rr_preV hKK (hP.sub [0, 1, 2, 3, 4, 5, 6, 7, 8] rfl) rfl rfl) rfl rfl hl.1 rfl (lv_room (Nat.le_of_ble_eq_true rfl)) dL_law_884 ⟨Nat.le_of_ble_eq_true rfl, Nat.le_of_ble_eq_true rfl⟩) ?_
    refine lv_aload_n hx hb dL_law_887 rfl (lv_at hl 2 rfl) ?_
    refine la_arg hx hb hX hbl hbA hS hl hL e1 (by omega) dL_law_888 dL_law_889 dL_law_890 (by decide) dL_law_891 dL_law_892 ?_
    refine la_arg hx hb hX hbl hbA hS hl hL e2 (by omega) dL_law_893 dL_law_894 dL_law_895 (by decide) dL_law_896 dL_law_897 ?_
    refine rr_callR (va_runV (As := [.int (nI r), .int (nI o)]) (rest := [.int (nI (orS (fun k => wrongB ((kdB Bw) k) ((wdB Bw) k) (Rr (r * 6 + k)) (Rr (o * 6 + k))) (Bw 0)))]) ⟨hx, hb, hml, hown, hts⟩ (c_X5_should_g l dC dI cI cJ cS (xa 32) (xa 33) (xa 34) (xa 35) (xa 36) (xa 37) (xa 38) (xa 39) (xa 40) im tn at0 st0 nu rm rh Bw r o (hm) (hr4) (ho4)) (cwV 2 hts gL_law_X5_should rfl rfl rfl (by decide +kernel) ⟨Nat.le_of_ble_eq_true rfl, Nat.le_of_ble_eq_true rfl⟩) (rr_preV hKK (hP.sub [32, 33] rfl) rfl rfl) rfl rfl hl.1 rfl (lv_room (Nat.le_of_ble_eq_true rfl)) dL_law_898 ⟨Nat.le_of_ble_eq_true rfl, Nat.le_of_ble_eq_true rfl⟩) ?_
    refine lv_icmp_eq (tgt := 1356) hx hb dL_law_901 (by decide) (fun _ => ?_) (fun c9 => absurd (congrArg nI (orS_cg (fun k hk => by rw [hre r k hr4 hk, hre o k ho4 hk]))) c9)
    exact hk _ _ _ (LI_mk0 (nRl.rf q) (hkr) (ht) (hsr) hP hD hS hl)
set_option maxHeartbeats 4000000 in
set_option maxRecDepth 100000 in
theorem lc_unseen (C0 : lwC p s m meth c b L xs dC dI cI cJ cS A aK aV) (hi : i + 6 ≤ L) (hk : ∀ (H : Heap) (locs : List Loc) (ls : Array Slot), LI dC dI cI cJ cS A s.heap xa sd sq b i H locs ls → W p l e room_1 s m #[Value.ref b] below meth c H locs 100 2000 (lw_Z below #[Value.ref b] s) (F0 m 1356 ls [])) (hI : LI dC dI cI cJ cS A s.heap xa sd sq b i H locs ls) : W p l e room_1 s m #[Value.ref b] below meth c H locs 100 2000 (lw_Z below #[Value.ref b] s) (F0 m 906 ls []) := by
  obtain ⟨hx, hb, hr, hml, hown, hts, hX, hbl, hlocks, hKK, hZ, hA, hbA, hL⟩ := C0
  obtain ⟨im, _, _, _, _, _, _, nx, kf, wf, sf, Rr, Pr, Pd, tn, tp, n2, h2, rg2, sp2, Tp, Kq, Wq, sf2, n1, h1, rg1, sp1, dr1, kn1, nx1, kf1, wf1, sf1, R1, P1, D1, Th, Ln, Sz, Rw, at0, st0, nu, rm, rh, Bw, It, Rs, Rd, Hl, ⟨rfl, rfl, rfl, rfl, rfl, rfl, q⟩, hkr, ht, hsr, hP, hD, hS, hl⟩ := hI
  have hm : mOk Bw := q.1
  have ok : wOk (Bw 0) (kdB Bw) (wdB Bw) := hm.1
  have fk : isA (Bw 0) kf (kdB Bw) := q.2.1
  have fw : isA (Bw 0) wf (wdB Bw) := q.2.2.1
  obtain ⟨Sh, fs, hSo⟩ := q.2.2.2.1
  have hre : reR (Bw 0) Rr Bw := q.2.2.2.2.1
  have hnx : nx < 8 := q.2.2.2.2.2.1
  have hSs : ∀ j, j < Bw 0 → Sh j < spB Bw := fun j hj => (hSo j hj).1
  have hsp : spB Bw ≤ 47045881 := (spB_b hm).2
  have hsp0 : 0 < spB Bw := (spB_b hm).1
  have hrg : rgB Bw < 2 ^ 31 := by have := (rgB_b hm).2; omega
  have hR : rOk (Bw 0) (wdB Bw) Rr := q.ro
  have hkn : Bw 39 ≤ 8 := hm.2.2.2.1
  have hh : Bw 1 ≤ Bw 0 := hm.2.1
  have h6 : Bw 0 ≤ 6 := hm.n
  obtain ⟨hz, hl3, hit⟩ := id hsr
  obtain ⟨v1, e1⟩ : ∃ v, xs (i + 1) = v := ⟨_, rfl⟩
  obtain ⟨v2, e2⟩ : ∃ v, xs (i + 2) = v := ⟨_, rfl⟩
  obtain ⟨v3, e3⟩ : ∃ v, xs (i + 3) = v := ⟨_, rfl⟩
  refine lv_aload_n hx hb dL_law_906 rfl (lv_at hl 1 rfl) ?_
  refine la_arg hx hb hX hbl hbA hS hl hL e1 (by omega) dL_law_907 dL_law_908 dL_law_909 (by decide) dL_law_910 dL_law_911 ?_
  refine la_arg hx hb hX hbl hbA hS hl hL e2 (by omega) dL_law_912 dL_law_913 dL_law_914 (by decide) dL_law_915 dL_law_916 ?_
  refine la_arg hx hb hX hbl hbA hS hl hL e3 (by omega) dL_law_917 dL_law_918 dL_law_919 (by decide) dL_law_920 dL_law_921 ?_
  by_cases hbad : (inb v1 4 && inb v2 11 && inb v3 2) = false
  · skip
    refine rr_callR (va_runV (As := [.int v1, .int v2, .int v3]) (rest := []) ⟨hx, hb, hml, hown, hts⟩ (c_X4_unseen_b l dC dI cI cJ cS (xa 0) (xa 9) (xa 15) (xa 23) im (xa 1) (xa 2) (xa 3) (xa 4) (xa 5) (xa 6) (xa 7) (xa 8) (Bw 0) (Bw 1) (rgB Bw) (spB Bw) (Bw 14) (Bw 39) nx kf wf sf (kdB Bw) (wdB Bw) Sh Rr Pr Pd v1 v2 v3 (ok) (fw) (hbad)) (cwV 3 hts gL_law_X4_unseen rfl rfl rfl (by decide +kernel) ⟨Nat.le_of_ble_eq_true rfl, Nat.le_of_ble_eq_true rfl⟩) (rr_preV hKK (hP.sub [0, 1, 2, 3, 4, 5, 6, 7, 8] rfl) rfl rfl) rfl rfl hl.1 rfl (lv_room (Nat.le_of_ble_eq_true rfl)) dL_law_922 ⟨Nat.le_of_ble_eq_true rfl, Nat.le_of_ble_eq_true rfl⟩) ?_
    refine lv_aload_n hx hb dL_law_925 rfl (lv_at hl 2 rfl) ?_
    refine la_arg hx hb hX hbl hbA hS hl hL e1 (by omega) dL_law_926 dL_law_927 dL_law_928 (by decide) dL_law_929 dL_law_930 ?_
    refine la_arg hx hb hX hbl hbA hS hl hL e2 (by omega) dL_law_931 dL_law_932 dL_law_933 (by decide) dL_law_934 dL_law_935 ?_
    refine la_arg hx hb hX hbl hbA hS hl hL e3 (by omega) dL_law_936 dL_law_937 dL_law_938 (by decide) dL_law_939 dL_law_940 ?_
    refine rr_callR (va_runV (As := [.int v1, .int v2, .int v3]) (rest := [.int (-1)]) ⟨hx, hb, hml, hown, hts⟩ (c_X5_unseen_b l dC dI cI cJ cS (xa 32) (xa 33) (xa 34) (xa 35) (xa 36) (xa 37) (xa 38) (xa 39) (xa 40) im tn at0 st0 nu rm rh Bw v1 v2 v3 (hm) (hbad)) (cwV 3 hts gL_law_X5_unseen rfl rfl rfl (by decide +kernel) ⟨Nat.le_of_ble_eq_true rfl, Nat.le_of_ble_eq_true rfl⟩) (rr_preV hKK (hP.sub [32, 33] rfl) rfl rfl) rfl rfl hl.1 rfl (lv_room (Nat.le_of_ble_eq_true rfl)) dL_law_941 ⟨Nat.le_of_ble_eq_true rfl, Nat.le_of_ble_eq_true rfl⟩) ?_
    refine lv_icmp_eq (tgt := 1356) hx hb dL_law_944 (by decide) (fun _ => ?_) (fun c9 => absurd (rfl) c9)
    exact hk _ _ _ (LI_mk0 (nRl.rf q) (hkr) (ht) (hsr) hP hD hS hl)
  · simp only [Bool.not_eq_false, Bool.and_eq_true] at hbad
    obtain ⟨r, hr4, rfl⟩ := inb_of (by decide) hbad.1.1
    obtain ⟨ch, hc3, rfl⟩ := inb_of (by decide) hbad.1.2
    have hc2 : ch ≤ 10 := by omega
    obtain ⟨w, hw, rfl⟩ := inb_of (by decide) hbad.2
    rcases (show w = 0 ∨ w = 1 by omega) with rfl | rfl
    · skip
      refine rr_callR (va_runV (As := [.int (nI r), .int (nI ch), .int (nI 0)]) (rest := []) ⟨hx, hb, hml, hown, hts⟩ (c_X4_unseen_0 l dC dI cI cJ cS (xa 0) (xa 9) (xa 15) (xa 23) im (xa 1) (xa 2) (xa 3) (xa 4) (xa 5) (xa 6) (xa 7) (xa 8) (Bw 0) (Bw 1) (rgB Bw) (spB Bw) (Bw 14) (Bw 39) nx kf wf sf (kdB Bw) (wdB Bw) Sh Rr Pr Pd r ch (ok) (fk) (fw) (fs) (hSs) (hsp) (hsp0) (hR) (hrg) (hr4) (hc2)) (cwV 3 hts gL_law_X4_unseen rfl rfl rfl (by decide +kernel) ⟨Nat.le_of_ble_eq_true rfl, Nat.le_of_ble_eq_true rfl⟩) (rr_preV hKK (hP.sub [0, 1, 2, 3, 4, 5, 6, 7, 8] rfl) rfl rfl) rfl rfl hl.1 rfl (lv_room (Nat.le_of_ble_eq_true rfl)) dL_law_922 ⟨Nat.le_of_ble_eq_true rfl, Nat.le_of_ble_eq_true rfl⟩) ?_
      refine lv_aload_n hx hb dL_law_925 rfl (lv_at hl 2 rfl) ?_
      refine la_arg hx hb hX hbl hbA hS hl hL e1 (by omega) dL_law_926 dL_law_927 dL_law_928 (by decide) dL_law_929 dL_law_930 ?_
      refine la_arg hx hb hX hbl hbA hS hl hL e2 (by omega) dL_law_931 dL_law_932 dL_law_933 (by decide) dL_law_934 dL_law_935 ?_
      refine la_arg hx hb hX hbl hbA hS hl hL e3 (by omega) dL_law_936 dL_law_937 dL_law_938 (by decide) dL_law_939 dL_law_940 ?_
      refine lq_callis (va_runV (As := [.int (nI r), .int (nI ch), .int (nI 0)]) (rest := [.int (nI (uC (Bw 0) Sh (spB Bw) (rgB Bw) (vR Sh Rr (spB Bw) (Bw 0) r) ch (2 ^ (Bw 0)) / Nat.gcd (uC (Bw 0) Sh (spB Bw) (rgB Bw) (vR Sh Rr (spB Bw) (Bw 0) r) ch (2 ^ (Bw 0))) (10 ^ (Bw 0))))]) ⟨hx, hb, hml, hown, hts⟩ (c_X5_unseen_0 l dC dI cI cJ cS _ (xa 32) (xa 33) (xa 34) (xa 35) (xa 36) (xa 37) (xa 38) (xa 39) (xa 40) im tn at0 st0 nu rm rh Bw Rs r ch (hm) (hr4) (hc2)) (cwV 3 hts gL_law_X5_unseen rfl rfl rfl (by decide +kernel) ⟨Nat.le_of_ble_eq_true rfl, Nat.le_of_ble_eq_true rfl⟩) (rw_preV hKK (hP.sub [32, 33, 38] rfl) (hD.sub [32, 33, 38] (by decide) rfl) rfl rfl) rfl rfl hl.1 rfl (lv_room (Nat.le_of_ble_eq_true rfl)) dL_law_941 ⟨Nat.le_of_ble_eq_true rfl, Nat.le_of_ble_eq_true rfl⟩) hP hD hS hA [32, 33, 38] [0, 1, 2, 3, 4, 5, 6, 7, 8, 9, 10, 11, 12, 13, 14, 15, 16, 17, 18, 19, 20, 21, 22, 23, 24, 25, 26, 27, 28, 29, 30, 31, 34, 35, 36, 37, 39, 40] rfl rfl (by decide) (by decide) [0, 1, 2, 3, 4, 5, 6, 7, 8, 9, 10, 11, 12, 13, 14, 15, 16, 17, 18, 19, 20, 21, 22, 23, 24, 25, 26, 27, 28, 29, 30, 31, 38, 39, 32, 33, 34, 35, 40, 36, 37] (fun uq => (lawW cI cJ cS xa sd sq im (Bw 0) (Bw 1) (rgB Bw) (spB Bw) (Bw 14) (Bw 39) nx kf wf sf Rr Pr Pd tn tp n2 h2 rg2 sp2 Tp Kq Wq sf2 n1 h1 rg1 sp1 dr1 kn1 nx1 kf1 wf1 sf1 R1 P1 D1 0 (Th 0) (Ln 0) (Sz 0) (Rw 0) 1 (Th 1) (Ln 1) (Sz 1) (Rw 1) 2 (Th 2) (Ln 2) (Sz 2) (Rw 2) 3 (Th 3) (Ln 3) (Sz 3) (Rw 3) im tn at0 st0 nu rm rh Bw Tp (laF Th Ln) Sz It uq Rd Hl)) (by decide) (fun _ => rfl) (fun Rq1 H locs hP hD hS => ?_)
      refine lv_icmp_eq (tgt := 1356) hx hb dL_law_944 (by decide) (fun _ => ?_) (fun c9 => absurd (by rw [un_eq hm hSo hre hr4 ch]) c9)
      exact hk _ _ _ (LI_mk0 (nRl.rf q) (hkr) (ht) (hsr) hP hD hS hl)
    · skip
      refine rr_callR (va_runV (As := [.int (nI r), .int (nI ch), .int (nI 1)]) (rest := []) ⟨hx, hb, hml, hown, hts⟩ (c_X4_unseen_1 l dC dI cI cJ cS (xa 0) (xa 9) (xa 15) (xa 23) im (xa 1) (xa 2) (xa 3) (xa 4) (xa 5) (xa 6) (xa 7) (xa 8) (Bw 0) (Bw 1) (rgB Bw) (spB Bw) (Bw 14) (Bw 39) nx kf wf sf (kdB Bw) (wdB Bw) Sh Rr Pr Pd r ch (ok) (fk) (fw) (fs) (hSs) (hsp) (hsp0) (hR) (hrg) (hr4) (hc2)) (cwV 3 hts gL_law_X4_unseen rfl rfl rfl (by decide +kernel) ⟨Nat.le_of_ble_eq_true rfl, Nat.le_of_ble_eq_true rfl⟩) (rr_preV hKK (hP.sub [0, 1, 2, 3, 4, 5, 6, 7, 8] rfl) rfl rfl) rfl rfl hl.1 rfl (lv_room (Nat.le_of_ble_eq_true rfl)) dL_law_922 ⟨Nat.le_of_ble_eq_true rfl, Nat.le_of_ble_eq_true rfl⟩) ?_
      refine lv_aload_n hx hb dL_law_925 rfl (lv_at hl 2 rfl) ?_
      refine la_arg hx hb hX hbl hbA hS hl hL e1 (by omega) dL_law_926 dL_law_927 dL_law_928 (by decide) dL_law_929 dL_law_930 ?_
      refine la_arg hx hb hX hbl hbA hS hl hL e2 (by omega) dL_law_931 dL_law_932 dL_law_933 (by decide) dL_law_934 dL_law_935 ?_
      refine la_arg hx hb hX hbl hbA hS hl hL e3 (by omega) dL_law_936 dL_law_937 dL_law_938 (by decide) dL_law_939 dL_law_940 ?_
      refine lq_callis (va_runV (As := [.int (nI r), .int (nI ch), .int (nI 1)]) (rest := [.int (nI (10 ^ (Bw 0) / Nat.gcd (uC (Bw 0) Sh (spB Bw) (rgB Bw) (vR Sh Rr (spB Bw) (Bw 0) r) ch (2 ^ (Bw 0))) (10 ^ (Bw 0))))]) ⟨hx, hb, hml, hown, hts⟩ (c_X5_unseen_1 l dC dI cI cJ cS _ (xa 32) (xa 33) (xa 34) (xa 35) (xa 36) (xa 37) (xa 38) (xa 39) (xa 40) im tn at0 st0 nu rm rh Bw Rs r ch (hm) (hr4) (hc2)) (cwV 3 hts gL_law_X5_unseen rfl rfl rfl (by decide +kernel) ⟨Nat.le_of_ble_eq_true rfl, Nat.le_of_ble_eq_true rfl⟩) (rw_preV hKK (hP.sub [32, 33, 38] rfl) (hD.sub [32, 33, 38] (by decide) rfl) rfl rfl) rfl rfl hl.1 rfl (lv_room (Nat.le_of_ble_eq_true rfl)) dL_law_941 ⟨Nat.le_of_ble_eq_true rfl, Nat.le_of_ble_eq_true rfl⟩) hP hD hS hA [32, 33, 38] [0, 1, 2, 3, 4, 5, 6, 7, 8, 9, 10, 11, 12, 13, 14, 15, 16, 17, 18, 19, 20, 21, 22, 23, 24, 25, 26, 27, 28, 29, 30, 31, 34, 35, 36, 37, 39, 40] rfl rfl (by decide) (by decide) [0, 1, 2, 3, 4, 5, 6, 7, 8, 9, 10, 11, 12, 13, 14, 15, 16, 17, 18, 19, 20, 21, 22, 23, 24, 25, 26, 27, 28, 29, 30, 31, 38, 39, 32, 33, 34, 35, 40, 36, 37] (fun uq => (lawW cI cJ cS xa sd sq im (Bw 0) (Bw 1) (rgB Bw) (spB Bw) (Bw 14) (Bw 39) nx kf wf sf Rr Pr Pd tn tp n2 h2 rg2 sp2 Tp Kq Wq sf2 n1 h1 rg1 sp1 dr1 kn1 nx1 kf1 wf1 sf1 R1 P1 D1 0 (Th 0) (Ln 0) (Sz 0) (Rw 0) 1 (Th 1) (Ln 1) (Sz 1) (Rw 1) 2 (Th 2) (Ln 2) (Sz 2) (Rw 2) 3 (Th 3) (Ln 3) (Sz 3) (Rw 3) im tn at0 st0 nu rm rh Bw Tp (laF Th Ln) Sz It uq Rd Hl)) (by decide) (fun _ => rfl) (fun Rq2 H locs hP hD hS => ?_)
      refine lv_icmp_eq (tgt := 1356) hx hb dL_law_944 (by decide) (fun _ => ?_) (fun c9 => absurd (by rw [un_eq hm hSo hre hr4 ch]) c9)
      exact hk _ _ _ (LI_mk0 (nRl.rf q) (hkr) (ht) (hsr) hP hD hS hl)
set_option maxHeartbeats 4000000 in
set_option maxRecDepth 100000 in
theorem lc_image (C0 : lwC p s m meth c b L xs dC dI cI cJ cS A aK aV) (hi : i + 6 ≤ L) (hk : ∀ (H : Heap) (locs : List Loc) (ls : Array Slot), LI dC dI cI cJ cS A s.heap xa sd sq b i H locs ls → W p l e room_1 s m #[Value.ref b] below meth c H locs 100 2000 (lw_Z below #[Value.ref b] s) (F0 m 1356 ls [])) (hI : LI dC dI cI cJ cS A s.heap xa sd sq b i H locs ls) : W p l e room_1 s m #[Value.ref b] below meth c H locs 100 2000 (lw_Z below #[Value.ref b] s) (F0 m 949 ls []) := by
  obtain ⟨hx, hb, hr, hml, hown, hts, hX, hbl, hlocks, hKK, hZ, hA, hbA, hL⟩ := C0
  obtain ⟨im, _, _, _, _, _, _, nx, kf, wf, sf, Rr, Pr, Pd, tn, tp, n2, h2, rg2, sp2, Tp, Kq, Wq, sf2, n1, h1, rg1, sp1, dr1, kn1, nx1, kf1, wf1, sf1, R1, P1, D1, Th, Ln, Sz, Rw, at0, st0, nu, rm, rh, Bw, It, Rs, Rd, Hl, ⟨rfl, rfl, rfl, rfl, rfl, rfl, q⟩, hkr, ht, hsr, hP, hD, hS, hl⟩ := hI
  have hm : mOk Bw := q.1
  have ok : wOk (Bw 0) (kdB Bw) (wdB Bw) := hm.1
  have fk : isA (Bw 0) kf (kdB Bw) := q.2.1
  have fw : isA (Bw 0) wf (wdB Bw) := q.2.2.1
  obtain ⟨Sh, fs, hSo⟩ := q.2.2.2.1
  have hre : reR (Bw 0) Rr Bw := q.2.2.2.2.1
  have hnx : nx < 8 := q.2.2.2.2.2.1
  have hSs : ∀ j, j < Bw 0 → Sh j < spB Bw := fun j hj => (hSo j hj).1
  have hsp : spB Bw ≤ 47045881 := (spB_b hm).2
  have hsp0 : 0 < spB Bw := (spB_b hm).1
  have hrg : rgB Bw < 2 ^ 31 := by have := (rgB_b hm).2; omega
  have hR : rOk (Bw 0) (wdB Bw) Rr := q.ro
  have hkn : Bw 39 ≤ 8 := hm.2.2.2.1
  have hh : Bw 1 ≤ Bw 0 := hm.2.1
  have h6 : Bw 0 ≤ 6 := hm.n
  obtain ⟨hz, hl3, hit⟩ := id hsr
  refine lv_aload_n hx hb dL_law_949 rfl (lv_at hl 1 rfl) ?_
  refine lq_calli (va_runV (As := []) (rest := []) ⟨hx, hb, hml, hown, hts⟩ (c_X4_image_g l dC dI cI cJ cS _ (xa 0) (xa 9) (xa 15) (xa 23) im (xa 1) (xa 2) (xa 3) (xa 4) (xa 5) (xa 6) (xa 7) (xa 8) (Bw 0) (Bw 1) (rgB Bw) (spB Bw) (Bw 14) (Bw 39) nx kf wf sf (kdB Bw) (wdB Bw) Sh Rr Pr Pd (xa 16) (xa 17) (xa 18) (xa 19) (xa 20) (xa 21) (xa 22) n1 h1 rg1 sp1 dr1 kn1 nx1 kf1 wf1 sf1 R1 P1 D1 ) (cwV 0 hts gL_law_X4_image rfl rfl rfl (by decide +kernel) ⟨Nat.le_of_ble_eq_true rfl, Nat.le_of_ble_eq_true rfl⟩) (rw_preV hKK (hP.sub [0, 1, 2, 3, 4, 5, 6, 7, 8, 15, 16, 17, 18, 19, 20, 21, 22] rfl) (hD.sub [0, 1, 2, 3, 4, 5, 6, 7, 8, 15, 16, 17, 18, 19, 20, 21, 22] (by decide) rfl) rfl rfl) rfl rfl hl.1 rfl (lv_room (Nat.le_of_ble_eq_true rfl)) dL_law_950 ⟨Nat.le_of_ble_eq_true rfl, Nat.le_of_ble_eq_true rfl⟩) hP hD hS hA [0, 1, 2, 3, 4, 5, 6, 7, 8, 15, 16, 17, 18, 19, 20, 21, 22] [9, 10, 11, 12, 13, 14, 23, 24, 25, 26, 27, 28, 29, 30, 31, 32, 33, 34, 35, 36, 37, 38, 39, 40] rfl rfl (by decide) (by decide) [24, 25, 26, 27, 28, 29, 30, 31, 32, 0, 1, 2, 3, 4, 5, 33, 34, 35, 36, 37, 38, 39, 40, 6, 7, 8, 9, 10, 11, 12, 13, 14, 15, 16, 17, 18, 19, 20, 21, 22, 23] (lawW cI cJ cS xa sd sq true (Bw 0) (Bw 1) (rgB Bw) (spB Bw) (Bw 14) (Bw 39) nx kf wf sf Rr Pr Pd tn tp n2 h2 rg2 sp2 Tp Kq Wq sf2 (Bw 0) (Bw 1) (rgB Bw) (spB Bw) (Bw 14) (Bw 39) nx (va_cpy kf kf1 0 0 6) (va_cpy wf wf1 0 0 6) (va_cpy sf sf1 0 0 6) (cpN Rr R1 0 0 24) (cpN Pr P1 0 0 192) (cpN Pd D1 0 0 8) 0 (Th 0) (Ln 0) (Sz 0) (Rw 0) 1 (Th 1) (Ln 1) (Sz 1) (Rw 1) 2 (Th 2) (Ln 2) (Sz 2) (Rw 2) 3 (Th 3) (Ln 3) (Sz 3) (Rw 3) im tn at0 st0 nu rm rh Bw Tp (laF Th Ln) Sz It Rs Rd Hl) (by decide) rfl (fun H locs hP hD hS => ?_)
  refine lv_aload_n hx hb dL_law_953 rfl (lv_at hl 2 rfl) ?_
  refine lq_calli (va_runV (As := []) (rest := [.int (nI 1)]) ⟨hx, hb, hml, hown, hts⟩ (c_X5_image_g l dC dI cI cJ cS _ (xa 32) (xa 33) (xa 34) (xa 35) (xa 36) (xa 37) (xa 38) (xa 39) (xa 40) im tn at0 st0 nu rm rh Bw ) (cwV 0 hts gL_law_X5_image rfl rfl rfl (by decide +kernel) ⟨Nat.le_of_ble_eq_true rfl, Nat.le_of_ble_eq_true rfl⟩) (rw_preV hKK (hP.sub [32, 33] rfl) (hD.sub [32, 33] (by decide) rfl) rfl rfl) rfl rfl hl.1 rfl (lv_room (Nat.le_of_ble_eq_true rfl)) dL_law_954 ⟨Nat.le_of_ble_eq_true rfl, Nat.le_of_ble_eq_true rfl⟩) hP hD hS hA [32, 33] [0, 1, 2, 3, 4, 5, 6, 7, 8, 9, 10, 11, 12, 13, 14, 15, 16, 17, 18, 19, 20, 21, 22, 23, 24, 25, 26, 27, 28, 29, 30, 31, 34, 35, 36, 37, 38, 39, 40] rfl rfl (by decide) (by decide) [0, 1, 2, 3, 4, 5, 6, 7, 8, 9, 10, 11, 12, 13, 14, 15, 16, 17, 18, 19, 20, 21, 22, 23, 24, 25, 26, 27, 28, 29, 30, 31, 39, 40, 32, 33, 34, 35, 36, 37, 38] (lawW cI cJ cS xa sd sq true (Bw 0) (Bw 1) (rgB Bw) (spB Bw) (Bw 14) (Bw 39) nx kf wf sf Rr Pr Pd tn tp n2 h2 rg2 sp2 Tp Kq Wq sf2 (Bw 0) (Bw 1) (rgB Bw) (spB Bw) (Bw 14) (Bw 39) nx (va_cpy kf kf1 0 0 6) (va_cpy wf wf1 0 0 6) (va_cpy sf sf1 0 0 6) (cpN Rr R1 0 0 24) (cpN Pr P1 0 0 192) (cpN Pd D1 0 0 8) 0 (Th 0) (Ln 0) (Sz 0) (Rw 0) 1 (Th 1) (Ln 1) (Sz 1) (Rw 1) 2 (Th 2) (Ln 2) (Sz 2) (Rw 2) 3 (Th 3) (Ln 3) (Sz 3) (Rw 3) true tn at0 st0 nu rm rh (cpN Bw Bw 0 240 240) Tp (laF Th Ln) Sz It Rs Rd Hl) (by decide) rfl (fun H locs hP hD hS => ?_)
  refine lv_icmp_eq (tgt := 1356) hx hb dL_law_957 (by decide) (fun _ => ?_) (fun c9 => absurd (rfl) c9)
  exact hk _ _ _ (LI_mk0 (nRl.image q) (kRl.image q) (ht) (hsr) hP hD hS hl)
set_option maxHeartbeats 4000000 in
set_option maxRecDepth 100000 in
theorem lc_restore (C0 : lwC p s m meth c b L xs dC dI cI cJ cS A aK aV) (hi : i + 6 ≤ L) (hk : ∀ (H : Heap) (locs : List Loc) (ls : Array Slot), LI dC dI cI cJ cS A s.heap xa sd sq b i H locs ls → W p l e room_1 s m #[Value.ref b] below meth c H locs 100 2000 (lw_Z below #[Value.ref b] s) (F0 m 1356 ls [])) (hI : LI dC dI cI cJ cS A s.heap xa sd sq b i H locs ls) : W p l e room_1 s m #[Value.ref b] below meth c H locs 100 2000 (lw_Z below #[Value.ref b] s) (F0 m 962 ls []) := by
  obtain ⟨hx, hb, hr, hml, hown, hts, hX, hbl, hlocks, hKK, hZ, hA, hbA, hL⟩ := C0
  obtain ⟨im, _, _, _, _, _, _, nx, kf, wf, sf, Rr, Pr, Pd, tn, tp, n2, h2, rg2, sp2, Tp, Kq, Wq, sf2, n1, h1, rg1, sp1, dr1, kn1, nx1, kf1, wf1, sf1, R1, P1, D1, Th, Ln, Sz, Rw, at0, st0, nu, rm, rh, Bw, It, Rs, Rd, Hl, ⟨rfl, rfl, rfl, rfl, rfl, rfl, q⟩, hkr, ht, hsr, hP, hD, hS, hl⟩ := hI
  have hm : mOk Bw := q.1
  have ok : wOk (Bw 0) (kdB Bw) (wdB Bw) := hm.1
  have fk : isA (Bw 0) kf (kdB Bw) := q.2.1
  have fw : isA (Bw 0) wf (wdB Bw) := q.2.2.1
  obtain ⟨Sh, fs, hSo⟩ := q.2.2.2.1
  have hre : reR (Bw 0) Rr Bw := q.2.2.2.2.1
  have hnx : nx < 8 := q.2.2.2.2.2.1
  have hSs : ∀ j, j < Bw 0 → Sh j < spB Bw := fun j hj => (hSo j hj).1
  have hsp : spB Bw ≤ 47045881 := (spB_b hm).2
  have hsp0 : 0 < spB Bw := (spB_b hm).1
  have hrg : rgB Bw < 2 ^ 31 := by have := (rgB_b hm).2; omega
  have hR : rOk (Bw 0) (wdB Bw) Rr := q.ro
  have hkn : Bw 39 ≤ 8 := hm.2.2.2.1
  have hh : Bw 1 ≤ Bw 0 := hm.2.1
  have h6 : Bw 0 ≤ 6 := hm.n
  obtain ⟨hz, hl3, hit⟩ := id hsr
  refine lv_aload_n hx hb dL_law_962 rfl (lv_at hl 1 rfl) ?_
  by_cases him : im = true
  · skip
    refine lq_calli (va_runV (As := []) (rest := []) ⟨hx, hb, hml, hown, hts⟩ (c_X4_restore_1 l dC dI cI cJ cS _ (xa 0) (xa 9) (xa 15) (xa 23) im (xa 1) (xa 2) (xa 3) (xa 4) (xa 5) (xa 6) (xa 7) (xa 8) (Bw 0) (Bw 1) (rgB Bw) (spB Bw) (Bw 14) (Bw 39) nx kf wf sf (kdB Bw) (wdB Bw) Sh Rr Pr Pd (xa 16) (xa 17) (xa 18) (xa 19) (xa 20) (xa 21) (xa 22) n1 h1 rg1 sp1 dr1 kn1 nx1 kf1 wf1 sf1 R1 P1 D1 (him)) (cwV 0 hts gL_law_X4_restore rfl rfl rfl (by decide +kernel) ⟨Nat.le_of_ble_eq_true rfl, Nat.le_of_ble_eq_true rfl⟩) (rw_preV hKK (hP.sub [0, 1, 2, 3, 4, 5, 6, 7, 8, 15, 16, 17, 18, 19, 20, 21, 22] rfl) (hD.sub [0, 1, 2, 3, 4, 5, 6, 7, 8, 15, 16, 17, 18, 19, 20, 21, 22] (by decide) rfl) rfl rfl) rfl rfl hl.1 rfl (lv_room (Nat.le_of_ble_eq_true rfl)) dL_law_963 ⟨Nat.le_of_ble_eq_true rfl, Nat.le_of_ble_eq_true rfl⟩) hP hD hS hA [0, 1, 2, 3, 4, 5, 6, 7, 8, 15, 16, 17, 18, 19, 20, 21, 22] [9, 10, 11, 12, 13, 14, 23, 24, 25, 26, 27, 28, 29, 30, 31, 32, 33, 34, 35, 36, 37, 38, 39, 40] rfl rfl (by decide) (by decide) [24, 25, 26, 27, 28, 29, 30, 31, 32, 0, 1, 2, 3, 4, 5, 33, 34, 35, 36, 37, 38, 39, 40, 6, 7, 8, 9, 10, 11, 12, 13, 14, 15, 16, 17, 18, 19, 20, 21, 22, 23] (lawW cI cJ cS xa sd sq im n1 h1 rg1 sp1 dr1 kn1 nx1 (va_cpy kf1 kf 0 0 6) (va_cpy wf1 wf 0 0 6) (va_cpy sf1 sf 0 0 6) (cpN R1 Rr 0 0 24) (cpN P1 Pr 0 0 192) (cpN D1 Pd 0 0 8) tn tp n2 h2 rg2 sp2 Tp Kq Wq sf2 n1 h1 rg1 sp1 dr1 kn1 nx1 kf1 wf1 sf1 R1 P1 D1 0 (Th 0) (Ln 0) (Sz 0) (Rw 0) 1 (Th 1) (Ln 1) (Sz 1) (Rw 1) 2 (Th 2) (Ln 2) (Sz 2) (Rw 2) 3 (Th 3) (Ln 3) (Sz 3) (Rw 3) im tn at0 st0 nu rm rh Bw Tp (laF Th Ln) Sz It Rs Rd Hl) (by decide) rfl (fun H locs hP hD hS => ?_)
    refine lv_aload_n hx hb dL_law_966 rfl (lv_at hl 2 rfl) ?_
    refine lq_calli (va_runV (As := []) (rest := [.int (nI 1)]) ⟨hx, hb, hml, hown, hts⟩ (c_X5_restore_1 l dC dI cI cJ cS _ (xa 32) (xa 33) (xa 34) (xa 35) (xa 36) (xa 37) (xa 38) (xa 39) (xa 40) im tn at0 st0 nu rm rh Bw (him)) (cwV 0 hts gL_law_X5_restore rfl rfl rfl (by decide +kernel) ⟨Nat.le_of_ble_eq_true rfl, Nat.le_of_ble_eq_true rfl⟩) (rw_preV hKK (hP.sub [32, 33] rfl) (hD.sub [32, 33] (by decide) rfl) rfl rfl) rfl rfl hl.1 rfl (lv_room (Nat.le_of_ble_eq_true rfl)) dL_law_967 ⟨Nat.le_of_ble_eq_true rfl, Nat.le_of_ble_eq_true rfl⟩) hP hD hS hA [32, 33] [0, 1, 2, 3, 4, 5, 6, 7, 8, 9, 10, 11, 12, 13, 14, 15, 16, 17, 18, 19, 20, 21, 22, 23, 24, 25, 26, 27, 28, 29, 30, 31, 34, 35, 36, 37, 38, 39, 40] rfl rfl (by decide) (by decide) [0, 1, 2, 3, 4, 5, 6, 7, 8, 9, 10, 11, 12, 13, 14, 15, 16, 17, 18, 19, 20, 21, 22, 23, 24, 25, 26, 27, 28, 29, 30, 31, 39, 40, 32, 33, 34, 35, 36, 37, 38] (lawW cI cJ cS xa sd sq im n1 h1 rg1 sp1 dr1 kn1 nx1 (va_cpy kf1 kf 0 0 6) (va_cpy wf1 wf 0 0 6) (va_cpy sf1 sf 0 0 6) (cpN R1 Rr 0 0 24) (cpN P1 Pr 0 0 192) (cpN D1 Pd 0 0 8) tn tp n2 h2 rg2 sp2 Tp Kq Wq sf2 n1 h1 rg1 sp1 dr1 kn1 nx1 kf1 wf1 sf1 R1 P1 D1 0 (Th 0) (Ln 0) (Sz 0) (Rw 0) 1 (Th 1) (Ln 1) (Sz 1) (Rw 1) 2 (Th 2) (Ln 2) (Sz 2) (Rw 2) 3 (Th 3) (Ln 3) (Sz 3) (Rw 3) im tn at0 st0 nu rm rh (cpN Bw Bw 240 0 240) Tp (laF Th Ln) Sz It Rs Rd Hl) (by decide) rfl (fun H locs hP hD hS => ?_)
    refine lv_icmp_eq (tgt := 1356) hx hb dL_law_970 (by decide) (fun _ => ?_) (fun c9 => absurd (rfl) c9)
    exact hk _ _ _ (LI_mk0 (nRl.restore hkr him) (hkr.restore) (ht) (hsr) hP hD hS hl)
  · have him : im = false := Bool.eq_false_iff.mpr him
    refine rr_callR (va_runV (As := []) (rest := []) ⟨hx, hb, hml, hown, hts⟩ (c_X4_restore_0 l dC dI cI cJ cS (xa 0) (xa 9) (xa 15) (xa 23) im (xa 1) (xa 2) (xa 3) (xa 4) (xa 5) (xa 6) (xa 7) (xa 8) (Bw 0) (Bw 1) (rgB Bw) (spB Bw) (Bw 14) (Bw 39) nx kf wf sf (kdB Bw) (wdB Bw) Sh Rr Pr Pd (him)) (cwV 0 hts gL_law_X4_restore rfl rfl rfl (by decide +kernel) ⟨Nat.le_of_ble_eq_true rfl, Nat.le_of_ble_eq_true rfl⟩) (rr_preV hKK (hP.sub [0, 1, 2, 3, 4, 5, 6, 7, 8] rfl) rfl rfl) rfl rfl hl.1 rfl (lv_room (Nat.le_of_ble_eq_true rfl)) dL_law_963 ⟨Nat.le_of_ble_eq_true rfl, Nat.le_of_ble_eq_true rfl⟩) ?_
    refine lv_aload_n hx hb dL_law_966 rfl (lv_at hl 2 rfl) ?_
    refine rr_callR (va_runV (As := []) (rest := [.int (-4)]) ⟨hx, hb, hml, hown, hts⟩ (c_X5_restore_0 l dC dI cI cJ cS (xa 32) (xa 33) (xa 34) (xa 35) (xa 36) (xa 37) (xa 38) (xa 39) (xa 40) im tn at0 st0 nu rm rh Bw (him)) (cwV 0 hts gL_law_X5_restore rfl rfl rfl (by decide +kernel) ⟨Nat.le_of_ble_eq_true rfl, Nat.le_of_ble_eq_true rfl⟩) (rr_preV hKK (hP.sub [32, 33] rfl) rfl rfl) rfl rfl hl.1 rfl (lv_room (Nat.le_of_ble_eq_true rfl)) dL_law_967 ⟨Nat.le_of_ble_eq_true rfl, Nat.le_of_ble_eq_true rfl⟩) ?_
    refine lv_icmp_eq (tgt := 1356) hx hb dL_law_970 (by decide) (fun _ => ?_) (fun c9 => absurd (rfl) c9)
    exact hk _ _ _ (LI_mk0 (nRl.rf q) (hkr) (ht) (hsr) hP hD hS hl)
end LC
