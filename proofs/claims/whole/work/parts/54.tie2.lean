/-! answers that are alike: rows that agree where they are read -/
theorem lcN_cg {f g : Nat → Nat} : ∀ {k : Nat}, (∀ j, j < k → f j = g j) → lcN f k = lcN g k
  | 0, _ => rfl
  | k + 1, h => by rw [lcN, lcN, lcN_cg (fun j hj => h j (by omega)), h k (by omega)]
theorem okL_cg {f g : Nat → Nat} : ∀ {k : Nat}, (∀ j, j < k → f j = g j) → okL f k = okL g k
  | 0, _ => rfl
  | k + 1, h => by rw [okL, okL, okL_cg (fun j hj => h j (by omega)), h k (by omega), lcN_cg (k := k + 1) h]
theorem agC_cg {f g : Nat → Nat} {k : Nat} (h : ∀ j, j < k → f j = g j) : agC f k = agC g k := by unfold agC; rw [okL_cg h, lcN_cg h]
theorem ag_eq {B R : Nat → Nat} (hm : mOk B) (hr : reR (B 0) R B) {r o : Nat} (hr4 : r < 4) (ho4 : o < 4) : agC (rnF (kdB B) (wdB B) R r o) (B 0) = agI B r o := by
  rw [← again_eq hm hr4 ho4]
  exact agC_cg (fun k hk => by unfold rnF; rw [hr r k hr4 hk, hr o k ho4 hk])
theorem ftB_cg {W : Nat → Nat} {row row2 : Nat → Int64} {a v : Nat} : ∀ {k : Nat}, (∀ j, j < k → row (a + j) = row2 (a + j)) → ftB W row a v k = ftB W row2 a v k
  | 0, _ => rfl
  | k + 1, h => by rw [ftB, ftB, ftB_cg (fun j hj => h j (by omega)), h k (by omega)]
theorem rbC_cg {n : Nat} {W : Nat → Nat} {row row2 : Nat → Int64} {a : Nat} (h : ∀ j, j < n → row (a + j) = row2 (a + j)) : ∀ v, rbC n W row a v = rbC n W row2 a v
  | 0 => rfl
  | v + 1 => by rw [rbC, rbC, rbC_cg h v, ftB_cg h]
theorem rbL_cg {n : Nat} {W : Nat → Nat} {row row2 : Nat → Int64} {a : Nat} (h : ∀ j, j < n → row (a + j) = row2 (a + j)) : ∀ v, rbL n W row a v = rbL n W row2 a v
  | 0 => rfl
  | v + 1 => by rw [rbL, rbL, rbL_cg h v, ftB_cg h, rbC_cg h]
theorem skB_cg {kd w : Nat} {row row2 : Nat → Int64} {a c : Nat} : ∀ {t : Nat}, (∀ j, j < 3 * t → row (a + j) = row2 (c + j)) → skB kd w row a t = skB kd w row2 c t
  | 0, _ => rfl
  | t + 1, h => by
    have e0 := h (3 * t) (by omega)
    have e1 := h (3 * t + 1) (by omega)
    have e2 := h (3 * t + 2) (by omega)
    rw [skB, skB, skB_cg (fun j hj => h j (by omega))]
    unfold okT
    rw [Nat.add_assoc a, Nat.add_assoc a, Nat.add_assoc c, Nat.add_assoc c, e0, e1, e2]
theorem fl_row {Rw It F G : Nat → Int64} {s a n k : Nat} (hit : ∀ k, k < 24 → Rw k = It (24 * s + k)) (hF : ∀ j, j < n → F j = G j) (hk : k < 24) : flI Rw a F n k = flI It (24 * s + a) G n (24 * s + k) := by
  by_cases h : a ≤ k ∧ k < a + n
  · rw [flI_in h, flI_in (by omega), hF _ (by omega)]
    congr 1
    omega
  · rw [flI_out (by omega), flI_out (by omega)]
    exact hit k hk
theorem up_row {Rw It : Nat → Int64} {s a k : Nat} {x : Int64} (hit : ∀ k, k < 24 → Rw k = It (24 * s + k)) (hk : k < 24) : vp_updL Rw a x k = vp_updL It (24 * s + a) x (24 * s + k) := by
  unfold vp_updL
  by_cases h : k = a
  · rw [if_pos h, if_pos (by omega)]
  · rw [if_neg h, if_neg (by omega)]
    exact hit k hk
theorem cp_row {Ra Rb It : Nat → Int64} {s g a d t k : Nat} (ha : ∀ k, k < 24 → Ra k = It (24 * s + k)) (hb : ∀ k, k < 24 → Rb k = It (24 * g + k)) (hat : a + t ≤ 24) (hk : k < 24) : va_cpy Ra Rb a d t k = flI It (24 * g + d) (fun j => It (24 * s + a + j)) t (24 * g + k) := by
  unfold va_cpy
  by_cases h : d ≤ k ∧ k < d + t
  · rw [if_pos h, flI_in (by omega), ha _ (by omega)]
    congr 1
    omega
  · rw [if_neg h, flI_out (by omega)]
    exact hb k hk
theorem ltr_of {x : Int32} (h : ¬ ltrB x = false) : ∃ j : Nat, 32 ≤ j ∧ j ≤ 126 ∧ x = nI j := by
  rw [Bool.not_eq_false] at h
  have q : (32 : Int64).toInt ≤ x.toInt64.toInt ∧ x.toInt64.toInt ≤ (126 : Int64).toInt := of_decide_eq_true h
  rw [Int32.toInt_toInt64] at q
  have e1 : (32 : Int64).toInt = 32 := by decide
  have e2 : (126 : Int64).toInt = 126 := by decide
  rw [e1, e2] at q
  obtain ⟨j, hj, e⟩ := nI_of (x := x) (by rw [Int32.lt_iff_toInt_lt]; show ¬ x.toInt < 0; omega)
  subst e
  rw [nI_toInt hj] at q
  exact ⟨j, by omega, by omega, rfl⟩
theorem inL_of {x : Int32} {lo hi : Int64} {a z : Nat} (e1 : lo.toInt = (a : Int)) (e2 : hi.toInt = (z : Int)) (h : inL x.toInt64 lo hi = true) : ∃ j : Nat, a ≤ j ∧ j ≤ z ∧ x = nI j := by
  have q : lo.toInt ≤ x.toInt64.toInt ∧ x.toInt64.toInt ≤ hi.toInt := of_decide_eq_true h
  rw [Int32.toInt_toInt64, e1, e2] at q
  obtain ⟨j, hj, e⟩ := nI_of (x := x) (by rw [Int32.lt_iff_toInt_lt]; show ¬ x.toInt < 0; omega)
  subst e
  rw [nI_toInt hj] at q
  exact ⟨j, by omega, by omega, rfl⟩
theorem nn_of {x : Int32} (h : 0 ≤ x) : ∃ d : Nat, d < 2 ^ 31 ∧ x = nI d := nI_of (by
  rw [Int32.lt_iff_toInt_lt]
  rw [Int32.le_iff_toInt_le] at h
  omega)
theorem le24_of {x : Int32} (h : x ≤ nI 24) (h0 : ¬ x < 0) : ∃ d : Nat, d ≤ 24 ∧ x = nI d := by
  obtain ⟨d, hd, e⟩ := nI_of h0
  subst e
  rw [Int32.le_iff_toInt_le, nI_toInt hd, nI_toInt (by decide)] at h
  exact ⟨d, by omega, rfl⟩
theorem has_at {len k : Nat} {x : Int32} (hl : len ≤ 24) (hk : k < 2 ^ 31) (h : hasS len x (nI k) = true) : ∃ a : Nat, x = nI a ∧ a + k ≤ len := by
  obtain ⟨a, d, e1, e2, h2⟩ := hasS_of hl h
  have e := (nI_eq hk (by omega)).mp e2
  subst e
  exact ⟨a, e1, h2⟩
theorem ref_at {th : Bool} {ln len k : Nat} {wl x : Int32} (h : refI th ln len wl x (nI k) = nI 0) (hl : len ≤ 24) (hk : k < 2 ^ 31) : ∃ a : Nat, x = nI a ∧ a + k ≤ len := has_at hl hk (refI_0 h).2.2
theorem tp_add {T : Nat → Nat} {n x : Nat} (h : tpOk T n) (hn : n < 40) (h1 : 32 ≤ x) (h2 : x ≤ 126) : tpOk (uN T n x) (n + 1) := by
  refine ⟨by omega, fun j hj => ?_⟩
  by_cases e : j = n
  · subst e
    rw [uN_eq]
    exact ⟨h1, h2⟩
  · rw [uN_ne e]
    exact h.2 j (by omega)
theorem tp_0 {T : Nat → Nat} : tpOk T 0 := ⟨Nat.zero_le _, fun j hj => absurd hj (Nat.not_lt_zero _)⟩
section ANS
variable {B R S : Nat → Nat} {r o : Nat}
theorem bl_eq (hm : mOk B) (hS : shOk (B 0) (wdB B) S (spB B)) (hre : reR (B 0) R B) (h4 : r < 4) : (if vR S R (spB B) (B 0) r < rgB B then 0 else orS (fun j => decide (vR S R (spB B) (B 0) r % (spB B / wdB B j) < rgB B)) (B 0)) = (if VB B r < rgB B then 0 else blS (B 0) (wdB B) (rwR B r) (rgB B) (B 0)) := by
  rw [vR_VB hm hS hre h4]
  by_cases h : VB B r < rgB B
  · rw [if_pos h, if_pos h]
  · rw [if_neg h, if_neg h]
    exact orS_cg (fun j hj => bl_bit hm.1 (hm.row h4) (VB_is hm h4) h hj)
theorem nr_0 (hm : mOk B) (hS : shOk (B 0) (wdB B) S (spB B)) (hre : reR (B 0) R B) (h4 : r < 4) : lA (B 0) (wdB B) (rgB B) (vR S R (spB B) (B 0) r) (mA (B 0) (wdB B) (rgB B) (vR S R (spB B) (B 0) r) (2 ^ B 0)) (2 ^ B 0) = nrB (B 0) (wdB B) (rwR B r) (rgB B) := by
  rw [vR_VB hm hS hre h4]
  exact near_0 hm.1 (VB_is hm h4).2 (rgB_b hm).1
theorem nr_1 (hm : mOk B) (hS : shOk (B 0) (wdB B) S (spB B)) (hre : reR (B 0) R B) (h4 : r < 4) : B 0 - mA (B 0) (wdB B) (rgB B) (vR S R (spB B) (B 0) r) (2 ^ B 0) = nrC (B 0) (wdB B) (rwR B r) (rgB B) := by
  rw [vR_VB hm hS hre h4]
  have := near_1 hm.1 (VB_is hm h4).2 (rgB_b hm).1
  omega
theorem un_eq (hm : mOk B) (hS : shOk (B 0) (wdB B) S (spB B)) (hre : reR (B 0) R B) (h4 : r < 4) (ch : Nat) : uC (B 0) S (spB B) (rgB B) (vR S R (spB B) (B 0) r) ch (2 ^ B 0) = upN (B 0) (wdB B) (rwR B r) (rgB B) ch (2 ^ B 0) := by
  rw [vR_VB hm hS hre h4]
  exact unseen_eq hm.1 hS (hm.row h4) (VB_is hm h4) _ (Nat.le_refl _)
theorem dv_pos (hm : mOk B) : ∀ j, j < B 0 → 0 < spB B / wdB B j := fun j hj => Nat.div_pos (Nat.le_of_dvd (spB_b hm).1 (prW_dvd _ _ hj)) (by have := hm.wd j hj; omega)
theorem ad_re {K W : Nat → Nat} (hre : reR (B 0) R B) (h4 : r < 4) (o4 : o < 4) : ∀ k, k < B 0 → adF K W R r o k = adF K W (rsB B) r o k := fun k hk => by unfold adF; rw [hre r k h4 hk, hre o k o4 hk]
theorem mu_re {K W : Nat → Nat} (hre : reR (B 0) R B) (h4 : r < 4) (o4 : o < 4) : ∀ k, k < B 0 → muF K W R r o k = muF K W (rsB B) r o k := fun k hk => by unfold muF; rw [hre r k h4 hk, hre o k o4 hk]
theorem ng_re {W : Nat → Nat} (hre : reR (B 0) R B) (h4 : r < 4) : ∀ k, k < B 0 → ngF W R r k = ngF W (rsB B) r k := fun k hk => by unfold ngF; rw [hre r k h4 hk]
end ANS
