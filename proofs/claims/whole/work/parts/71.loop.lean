/-! the law's loop -/
theorem lw_gt {i L : Nat} (hL : L ≤ 3072) (hi : i ≤ L) : (nI L - nI 6 < nI i) ↔ ¬ (i + 6 ≤ L) := by
  by_cases h : 6 ≤ L
  · have e : nI L - nI 6 = nI (L - 6) := pk_sub h
    rw [e, nI_ltI (by omega) (by omega)]
    omega
  · have h1 : nI L - nI 6 < 0 := by
      rcases (show L = 0 ∨ L = 1 ∨ L = 2 ∨ L = 3 ∨ L = 4 ∨ L = 5 by omega) with rfl | rfl | rfl | rfl | rfl | rfl <;> decide
    have h2 := nI_pos' (n := i) (by omega)
    constructor
    · intro _
      omega
    · intro _
      rw [Int32.lt_iff_toInt_lt] at h1 ⊢
      rw [Int32.le_iff_toInt_le] at h2
      omega
section LL
variable {p : Program} {l : Launch} {e : Env} {s : State} {m : MethodId} {below : List Frame} {meth : Method} {c : Code} {b L : Nat} {xs : Nat → Int32} {dC : Nat → ClassId} {dI : Nat → Nat → Nat} {cI cJ cS : ClassId} {A : Nat → Prop} {aK aV : Nat} {xa sd sq : Nat → Nat}
theorem LI_sl {i : Nat} {H : Heap} {locs : List Loc} {ls : Array Slot} (hI : LI dC dI cI cJ cS A s.heap xa sd sq b i H locs ls) : va_S A s.heap H locs ∧ lv_has ls 4 [(0, .ref b), (1, .ref (xa 0)), (2, .ref (xa 32)), (3, .int (nI i))] := by
  obtain ⟨im, n, h, rg, sp, dr, kn, nx, kf, wf, sf, Rr, Pr, Pd, tn, tp, n2, h2, rg2, sp2, Tp, Kq, Wq, sf2, n1, h1, rg1, sp1, dr1, kn1, nx1, kf1, wf1, sf1, R1, P1, D1, Th, Ln, Sz, Rw, at0, st0, nu, rm, rh, Bw, It, Rs, Rd, Hl, hn, hk, ht, hs, hP, hD, hS, hl⟩ := hI
  exact ⟨hS, hl⟩
theorem LI_nx {i j : Nat} {H : Heap} {locs : List Loc} {ls ls2 : Array Slot} (hI : LI dC dI cI cJ cS A s.heap xa sd sq b i H locs ls) (hl2 : lv_has ls2 4 [(0, .ref b), (1, .ref (xa 0)), (2, .ref (xa 32)), (3, .int (nI j))]) : LI dC dI cI cJ cS A s.heap xa sd sq b j H locs ls2 := by
  obtain ⟨im, n, h, rg, sp, dr, kn, nx, kf, wf, sf, Rr, Pr, Pd, tn, tp, n2, h2, rg2, sp2, Tp, Kq, Wq, sf2, n1, h1, rg1, sp1, dr1, kn1, nx1, kf1, wf1, sf1, R1, P1, D1, Th, Ln, Sz, Rw, at0, st0, nu, rm, rh, Bw, It, Rs, Rd, Hl, hn, hk, ht, hs, hP, hD, hS, hl⟩ := hI
  exact ⟨im, n, h, rg, sp, dr, kn, nx, kf, wf, sf, Rr, Pr, Pd, tn, tp, n2, h2, rg2, sp2, Tp, Kq, Wq, sf2, n1, h1, rg1, sp1, dr1, kn1, nx1, kf1, wf1, sf1, R1, P1, D1, Th, Ln, Sz, Rw, at0, st0, nu, rm, rh, Bw, It, Rs, Rd, Hl, hn, hk, ht, hs, hP, hD, hS, hl2⟩
set_option maxHeartbeats 4000000 in
set_option maxRecDepth 100000 in
theorem law_loop (C0 : lwC p s m meth c b L xs dC dI cI cJ cS A aK aV) (hAs : ∀ q, A q → s.heap.size ≤ q) : ∀ (n i : Nat), L - i < n → i ≤ L → ∀ (H : Heap) (locs : List Loc) (ls : Array Slot), LI dC dI cI cJ cS A s.heap xa sd sq b i H locs ls → W p l e room_1 s m #[Value.ref b] below meth c H locs 100 2000 (lw_Z below #[Value.ref b] s) (F0 m 18 ls []) := by
  obtain ⟨hx, hb, hr, hml, hown, hts, hX, hbl, hlocks, hKK, hZ, hA, hbA, hL⟩ := id C0
  intro n
  induction n with
  | zero => exact fun i h => absurd h (Nat.not_lt_zero _)
  | succ n ih =>
    intro i hn hiL H locs ls hI
    obtain ⟨hS, hl⟩ := LI_sl hI
    refine lv_iload_n hx hb dL_law_18 rfl (lv_at hl 3 rfl) ?_
    refine lv_aload_n hx hb dL_law_19 rfl (lv_at hl 0 rfl) ?_
    refine va_slen hx hb hX hbl hbA hS dL_law_20 ?_
    refine lv_bipush (v := nI 6) hx hb dL_law_21 (by decide) ?_
    refine lv_isub hx hb dL_law_23 ?_
    refine lv_icmp_gt (tgt := 1362) hx hb dL_law_24 (by decide) (fun c9 => ?_) (fun c9 => ?_)
    · refine lv_iconst (v := 1) hx hb dL_law_1362 (by decide) ?_
      refine va_forget (fun q hq => hAs _ (hS.2.2 q hq)) ?_
      refine W.widen (k := 600000) (n := 7302250) (Nat.le_of_ble_eq_true rfl) (Nat.le_of_ble_eq_true rfl) ?_
      exact lw_ret hx hb hr hlocks dL_law_1363
    · have hi : i + 6 ≤ L := by
        by_cases h : i + 6 ≤ L
        · exact h
        · exact absurd ((lw_gt hL hiL).mpr h) c9
      have hk : ∀ (H : Heap) (locs : List Loc) (ls : Array Slot), LI dC dI cI cJ cS A s.heap xa sd sq b i H locs ls → W p l e room_1 s m #[Value.ref b] below meth c H locs 100 2000 (lw_Z below #[Value.ref b] s) (F0 m 1356 ls []) := fun H locs ls hI => by
        obtain ⟨hS, hl⟩ := LI_sl hI
        refine lv_iinc (v := nI (i + 6)) (lv' := [(3, .int (nI (i + 6))), (0, .ref b), (1, .ref (xa 0)), (2, .ref (xa 32))]) hx hb dL_law_1356 hl (k := 3) rfl (rn_inc i 6) (by decide) rfl (fun ls2 hl2 => ?_)
        refine lv_goto (tgt := 18) hx hb dL_law_1359 (by decide) ?_
        exact ih (i + 6) (by omega) (by omega) H locs ls2 (LI_nx hI (lv_sub hl2 [1, 2, 3, 0] rfl))
      refine lv_aload_n hx hb dL_law_27 rfl (lv_at hl 0 rfl) ?_
      refine lv_iload_n hx hb dL_law_28 rfl (lv_at hl 3 rfl) ?_
      refine va_sld hx hb hX hbl hbA hS (vp_in_nI (show i < L by omega) (by omega)) dL_law_29 ?_
      refine lv_bipush (v := nI 63) hx hb dL_law_30 (by decide) ?_
      refine lv_iand hx hb dL_law_32 ?_
      generalize (xs (nI i).toNatClampNeg &&& nI 63) = x
      by_cases hsw : ∃ k, k < 34 ∧ x = nI k
      · obtain ⟨k, hk34, rfl⟩ := hsw
        rcases (show k = 0 ∨ k = 1 ∨ k = 2 ∨ k = 3 ∨ k = 4 ∨ k = 5 ∨ k = 6 ∨ k = 7 ∨ k = 8 ∨ k = 9 ∨ k = 10 ∨ k = 11 ∨ k = 12 ∨ k = 13 ∨ k = 14 ∨ k = 15 ∨ k = 16 ∨ k = 17 ∨ k = 18 ∨ k = 19 ∨ k = 20 ∨ k = 21 ∨ k = 22 ∨ k = 23 ∨ k = 24 ∨ k = 25 ∨ k = 26 ∨ k = 27 ∨ k = 28 ∨ k = 29 ∨ k = 30 ∨ k = 31 ∨ k = 32 ∨ k = 33 by omega) with rfl | rfl | rfl | rfl | rfl | rfl | rfl | rfl | rfl | rfl | rfl | rfl | rfl | rfl | rfl | rfl | rfl | rfl | rfl | rfl | rfl | rfl | rfl | rfl | rfl | rfl | rfl | rfl | rfl | rfl | rfl | rfl | rfl | rfl
        · exact lv_tableIn (off := 151) (tgt := 184) hx hb dL_law_33 (by decide) (by decide) (by decide) (by decide) (lc_type C0 hi hk hI)
        · exact lv_tableIn (off := 174) (tgt := 207) hx hb dL_law_33 (by decide) (by decide) (by decide) (by decide) (lc_set C0 hi hk hI)
        · exact lv_tableIn (off := 187) (tgt := 220) hx hb dL_law_33 (by decide) (by decide) (by decide) (by decide) (lc_of C0 hi hk hI)
        · exact lv_tableIn (off := 220) (tgt := 253) hx hb dL_law_33 (by decide) (by decide) (by decide) (by decide) (lc_rest C0 hi hk hI)
        · exact lv_tableIn (off := 253) (tgt := 286) hx hb dL_law_33 (by decide) (by decide) (by decide) (by decide) (lc_at C0 hi hk hI)
        · exact lv_tableIn (off := 286) (tgt := 319) hx hb dL_law_33 (by decide) (by decide) (by decide) (by decide) (lc_shows C0 hi hk hI)
        · exact lv_tableIn (off := 339) (tgt := 372) hx hb dL_law_33 (by decide) (by decide) (by decide) (by decide) (lc_count C0 hi hk hI)
        · exact lv_tableIn (off := 362) (tgt := 395) hx hb dL_law_33 (by decide) (by decide) (by decide) (by decide) (lc_lay C0 hi hk hI)
        · exact lv_tableIn (off := 395) (tgt := 428) hx hb dL_law_33 (by decide) (by decide) (by decide) (by decide) (lc_add C0 hi hk hI)
        · exact lv_tableIn (off := 428) (tgt := 461) hx hb dL_law_33 (by decide) (by decide) (by decide) (by decide) (lc_times C0 hi hk hI)
        · exact lv_tableIn (off := 461) (tgt := 494) hx hb dL_law_33 (by decide) (by decide) (by decide) (by decide) (lc_negate C0 hi hk hI)
        · exact lv_tableIn (off := 484) (tgt := 517) hx hb dL_law_33 (by decide) (by decide) (by decide) (by decide) (lc_slip C0 hi hk hI)
        · exact lv_tableIn (off := 527) (tgt := 560) hx hb dL_law_33 (by decide) (by decide) (by decide) (by decide) (lc_take C0 hi hk hI)
        · exact lv_tableIn (off := 560) (tgt := 593) hx hb dL_law_33 (by decide) (by decide) (by decide) (by decide) (lc_drift C0 hi hk hI)
        · exact lv_tableIn (off := 583) (tgt := 616) hx hb dL_law_33 (by decide) (by decide) (by decide) (by decide) (lc_undo C0 hi hk hI)
        · exact lv_tableIn (off := 596) (tgt := 629) hx hb dL_law_33 (by decide) (by decide) (by decide) (by decide) (lc_seed C0 hi hk hI)
        · exact lv_tableIn (off := 619) (tgt := 652) hx hb dL_law_33 (by decide) (by decide) (by decide) (by decide) (lc_figure C0 hi hk hI)
        · exact lv_tableIn (off := 652) (tgt := 685) hx hb dL_law_33 (by decide) (by decide) (by decide) (by decide) (lc_order C0 hi hk hI)
        · exact lv_tableIn (off := 685) (tgt := 718) hx hb dL_law_33 (by decide) (by decide) (by decide) (by decide) (lc_blame C0 hi hk hI)
        · exact lv_tableIn (off := 708) (tgt := 741) hx hb dL_law_33 (by decide) (by decide) (by decide) (by decide) (lc_nearest C0 hi hk hI)
        · exact lv_tableIn (off := 741) (tgt := 774) hx hb dL_law_33 (by decide) (by decide) (by decide) (by decide) (lc_apart C0 hi hk hI)
        · exact lv_tableIn (off := 754) (tgt := 787) hx hb dL_law_33 (by decide) (by decide) (by decide) (by decide) (lc_sum C0 hi hk hI)
        · exact lv_tableIn (off := 807) (tgt := 840) hx hb dL_law_33 (by decide) (by decide) (by decide) (by decide) (lc_again C0 hi hk hI)
        · exact lv_tableIn (off := 840) (tgt := 873) hx hb dL_law_33 (by decide) (by decide) (by decide) (by decide) (lc_should C0 hi hk hI)
        · exact lv_tableIn (off := 873) (tgt := 906) hx hb dL_law_33 (by decide) (by decide) (by decide) (by decide) (lc_unseen C0 hi hk hI)
        · exact lv_tableIn (off := 916) (tgt := 949) hx hb dL_law_33 (by decide) (by decide) (by decide) (by decide) (lc_image C0 hi hk hI)
        · exact lv_tableIn (off := 929) (tgt := 962) hx hb dL_law_33 (by decide) (by decide) (by decide) (by decide) (lc_restore C0 hi hk hI)
        · exact lv_tableIn (off := 942) (tgt := 975) hx hb dL_law_33 (by decide) (by decide) (by decide) (by decide) (lc_rubbed C0 hi hk hI)
        · exact lv_tableIn (off := 995) (tgt := 1028) hx hb dL_law_33 (by decide) (by decide) (by decide) (by decide) (lc_seen C0 hi hk hI)
        · exact lv_tableIn (off := 1058) (tgt := 1091) hx hb dL_law_33 (by decide) (by decide) (by decide) (by decide) (lc_film C0 hi hk hI)
        · exact lv_tableIn (off := 1111) (tgt := 1144) hx hb dL_law_33 (by decide) (by decide) (by decide) (by decide) (lc_sheet C0 hi hk hI)
        · exact lv_tableIn (off := 1154) (tgt := 1187) hx hb dL_law_33 (by decide) (by decide) (by decide) (by decide) (lc_drop C0 hi hk hI)
        · exact lv_tableIn (off := 1177) (tgt := 1210) hx hb dL_law_33 (by decide) (by decide) (by decide) (by decide) (lc_item C0 hi hk hI)
        · exact lv_tableIn (off := 1260) (tgt := 1293) hx hb dL_law_33 (by decide) (by decide) (by decide) (by decide) (lc_copy C0 hi hk hI)
      · exact lv_tableOut (tgt := 1356) hx hb dL_law_33 (sw_out 0 33 (fun k _ h => fun e => hsw ⟨k, by omega, e⟩)) (by decide) (hk H locs ls hI)
end LL
