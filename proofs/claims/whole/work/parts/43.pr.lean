/-! what set makes of the reference's memory -/
def stK (B R : Nat → Nat) (k : Nat) : Nat → Nat := fun i => if 2 ≤ i ∧ i < 2 + k ∧ i < 8 then R (2 * (i - 2)) else if 8 ≤ i ∧ i < 8 + k then R (2 * (i - 8) + 1) else B i
def stZ (B : Nat → Nat) (j : Nat) : Nat → Nat := fun i => if 15 ≤ i ∧ i < 15 + j then 0 else B i
def stB (B : Nat → Nat) (k h : Nat) (R : Nat → Nat) : Nat → Nat := uN (stZ (stK (uN (uN B 0 k) 1 h) R k) 24) 39 0
theorem stK_0 (B R : Nat → Nat) : nA B = nA (stK B R 0) := nA_fun (fun i => by unfold stK; rw [if_neg (by omega), if_neg (by omega)])
theorem stK_s {k : Nat} (B R : Nat → Nat) (hk : k < 6) : nA (uN (uN (stK B R k) (2 + k) (R (2 * k))) (8 + k) (R (2 * k + 1))) = nA (stK B R (k + 1)) := nA_fun (fun i => by
  unfold uN stK
  by_cases h1 : i = 8 + k
  · rw [if_pos h1, if_neg (by omega), if_pos (by omega), h1, Nat.add_sub_cancel_left]
  · rw [if_neg h1]
    by_cases h2 : i = 2 + k
    · rw [if_pos h2, if_pos (by omega), h2, Nat.add_sub_cancel_left]
    · rw [if_neg h2]
      by_cases h3 : 2 ≤ i ∧ i < 2 + k ∧ i < 8
      · rw [if_pos h3, if_pos (by omega)]
      · rw [if_neg h3, if_neg (show ¬ (2 ≤ i ∧ i < 2 + (k + 1) ∧ i < 8) by omega)]
        by_cases h4 : 8 ≤ i ∧ i < 8 + k
        · rw [if_pos h4, if_pos (by omega)]
        · rw [if_neg h4, if_neg (show ¬ (8 ≤ i ∧ i < 8 + (k + 1)) by omega)])
theorem stZ_0 (B : Nat → Nat) : nA B = nA (stZ B 0) := nA_fun (fun i => by unfold stZ; rw [if_neg (by omega)])
theorem stZ_s (B : Nat → Nat) (j : Nat) : nA (uN (stZ B j) (15 + j) 0) = nA (stZ B (j + 1)) := nA_fun (fun i => by
  unfold uN stZ
  by_cases h1 : i = 15 + j
  · rw [if_pos h1, if_pos (by omega)]
  · rw [if_neg h1]
    by_cases h2 : 15 ≤ i ∧ i < 15 + j
    · rw [if_pos h2, if_pos (by omega)]
    · rw [if_neg h2, if_neg (by omega)])
theorem twS_kf {T : Nat → Nat} {n : Nat} {u : MSt} (h : (twS T n u).2 = false) : (twS T n u).1.2.2.2.1 = u.2.2.2.1 := by
  unfold twS at h ⊢
  split
  · rfl
  · split
    · rfl
    · split
      · rfl
      · rename_i a b c
        rw [if_neg a, if_neg b, if_neg c] at h
        exact absurd h (by simp)
theorem rdL_ok {T : Nat → Nat} {n : Nat} (ht : tpOk T n) : ∀ (f : Nat) (u : MSt) (ck : Bool), qOk n u → qCk ck u → f + u.2.2.2.1 = 6 → qOk n (rdL T n f u ck).1 ∧ (rdL T n f u ck).1.2.2.2.2.1 ≤ (rdL T n f u ck).1.2.2.2.1 ∧ (rdL T n f u ck).1.2.1 ≤ n ∨ f = 0
  | 0, _, _, _, _, _ => Or.inr rfl
  | f + 1, u, ck, hu, hc, hf => by
    left
    have hw := twS_ok ht hu
    rw [rdL]
    by_cases h : (twS T n u).2 = false
    · rw [if_pos h]
      refine ⟨hw.1, ?_, hw.2.2.2⟩
      rw [hw.2.2.1, twS_kf h]
      exact hc.1
    · have h := (Bool.not_eq_false _).mp h
      rw [if_neg (by rw [h]; decide)]
      have ha := aft_ok ht hu hc h
      by_cases h1 : lkI T n (aft T n ck (twS T n u).1).1 < 0
      · rw [if_pos h1]
        exact ⟨ha.1, aft_le ha hc, ha.1.1⟩
      · rw [if_neg h1]
        by_cases h2 : mrB T n ck (aft T n ck (twS T n u).1).2.2.2.1 (aft T n ck (twS T n u).1).2.2.2.2.1 (aft T n ck (twS T n u).1).1 = false ∧ tnB T n ck (aft T n ck (twS T n u).1).1 = false
        · rw [if_pos h2]
          exact ⟨ha.1, aft_le ha hc, ha.1.1⟩
        · rw [if_neg h2]
          have hn := nxt_ok ht hu hc h h1 h2
          have h5 := qCk_5 hn.2
          rcases rdL_ok ht f _ _ hn.1 hn.2 (by show f + (aft T n ck (twS T n u).1).2.2.2.1 = 6; rw [ha.2.1]; omega) with q | q
          · exact q
          · exfalso
            have h6 : (aft T n ck (twS T n u).1).2.2.2.1 ≤ 5 := h5
            rw [ha.2.1] at h6
            omega
theorem rdL_ok6 {T : Nat → Nat} {n st0 nu : Nat} {R : Nat → Nat} (ht : tpOk T n) : qOk n (rdL T n 6 (0, st0, nu, 0, 0, R) false).1 ∧ (rdL T n 6 (0, st0, nu, 0, 0, R) false).1.2.2.2.2.1 ≤ (rdL T n 6 (0, st0, nu, 0, 0, R) false).1.2.2.2.1 ∧ (rdL T n 6 (0, st0, nu, 0, 0, R) false).1.2.1 ≤ n := by
  rcases rdL_ok ht 6 (0, st0, nu, 0, 0, R) false ⟨Nat.zero_le _, Nat.zero_le _, fun j hj => absurd hj (Nat.not_lt_zero _), fun j hj => absurd hj (Nat.not_lt_zero _), fun i j _ hj => absurd hj (Nat.not_lt_zero _)⟩ ⟨Nat.le_refl _, rfl, Nat.zero_le _⟩ rfl with q | q
  · exact q
  · exact absurd q (by decide)
