/-! again: a wheel's round, and when all are back -/
theorem fstN_spec (p : Nat → Bool) : ∀ f s, 0 < s → (fstN p s f = 0 ∧ ∀ t, s ≤ t → t < s + f → p t = false) ∨ (s ≤ fstN p s f ∧ fstN p s f < s + f ∧ p (fstN p s f) = true ∧ ∀ t, s ≤ t → t < fstN p s f → p t = false)
  | 0, s, _ => Or.inl ⟨rfl, fun t h1 h2 => by omega⟩
  | f + 1, s, hs => by
    rw [fstN]
    cases hp : p s
    · rw [if_neg (by decide)]
      have hz : ∀ t, s ≤ t → t < s + 1 → p t = false := fun t h1 h2 => by rw [show t = s by omega]; exact hp
      rcases fstN_spec p f (s + 1) (Nat.succ_pos _) with ⟨h1, h2⟩ | ⟨h1, h2, h3, h4⟩
      · refine Or.inl ⟨h1, fun t a b => ?_⟩
        rcases Nat.lt_or_ge t (s + 1) with q | q
        · exact hz t a q
        · exact h2 t q (by omega)
      · refine Or.inr ⟨by omega, by omega, h3, fun t a b => ?_⟩
        rcases Nat.lt_or_ge t (s + 1) with q | q
        · exact hz t a q
        · exact h4 t q b
    · rw [if_pos rfl]
      exact Or.inr ⟨Nat.le_refl _, by omega, hp, fun t a b => by omega⟩
section ORB
variable {kd w a b : Nat}
theorem addO_add (kd w a b i : Nat) : ∀ t, addO kd w (addO kd w a b i) b t = addO kd w a b (i + t)
  | 0 => rfl
  | t + 1 => by rw [addO, addO_add kd w a b i t]; rfl
theorem addO_ret {T : Nat} (h : addO kd w a b T = a) (t : Nat) : addO kd w a b (T + t) = addO kd w a b t := by
  rw [← addO_add, h]
theorem addO_mul {T : Nat} (h : addO kd w a b T = a) : ∀ q t, addO kd w a b (T * q + t) = addO kd w a b t
  | 0, t => by rw [Nat.mul_zero, Nat.zero_add]
  | q + 1, t => by rw [Nat.mul_succ, show T * q + T + t = T + (T * q + t) by omega, addO_ret h, addO_mul h q t]
theorem rnd_spec (ha : a < w) (hb : b < w) : (rnd kd w a b = 0 ∧ ∀ t, 0 < t → addO kd w a b t ≠ a) ∨ (0 < rnd kd w a b ∧ ∀ t, addO kd w a b t = a ↔ rnd kd w a b ∣ t) := by
  unfold rnd
  rcases fstN_spec (fun t => decide (addO kd w a b t = a)) w 1 Nat.zero_lt_one with ⟨h1, h2⟩ | ⟨h1, h2, h3, h4⟩
  · refine Or.inl ⟨h1, fun t ht e => ?_⟩
    obtain ⟨i, j, hij, hj, he⟩ := fb_twice (m := w) (n := w + 1) (f := fun i => addO kd w a b i) (fun i _ => addO_lt ha hb i) (Nat.lt_succ_self w)
    have hr : addO kd w a b (j - i) = a := by
      have e1 : addO kd w a b (t * i + (j - i)) = addO kd w a b (j - i) := addO_mul e i _
      have hle : i ≤ t * i := by
        have := Nat.mul_le_mul_right i ht
        omega
      have e2 : addO kd w a b (j + (t * i - i)) = addO kd w a b (i + (t * i - i)) := by
        have he2 : addO kd w a b i = addO kd w a b j := he
        rw [← addO_add, ← addO_add, he2]
      rw [← e1, show t * i + (j - i) = j + (t * i - i) by omega, e2, show i + (t * i - i) = t * i + 0 by omega, addO_mul e]
      rfl
    have := of_decide_eq_false (h2 (j - i) (by omega) (by omega))
    exact this hr
  · refine Or.inr ⟨by omega, fun t => ?_⟩
    generalize fstN (fun t => decide (addO kd w a b t = a)) 1 w = T at *
    have hT : addO kd w a b T = a := of_decide_eq_true h3
    constructor
    · intro e
      have e1 := Nat.div_add_mod t T
      have hlt := Nat.mod_lt t (show 0 < T by omega)
      rcases Nat.eq_zero_or_pos (t % T) with q | q
      · exact Nat.dvd_of_mod_eq_zero q
      · exfalso
        have e2 : addO kd w a b (t % T) = a := by rw [← addO_mul hT (t / T) (t % T), e1]; exact e
        exact of_decide_eq_false (h4 (t % T) q hlt) e2
    · rintro ⟨q, rfl⟩
      have := addO_mul hT q 0
      rw [Nat.add_zero] at this
      rw [this]; rfl
end ORB
section LCM
variable {f : Nat → Nat}
theorem lcN_s (f : Nat → Nat) (k : Nat) : lcN f (k + 1) = Nat.lcm (lcN f k) (f k) := by
  rw [lcN]
  unfold Nat.lcm
  rcases Nat.eq_zero_or_pos (Nat.gcd (lcN f k) (f k)) with q | q
  · rw [q, Nat.div_zero, Nat.div_zero, Nat.zero_mul]
  · obtain ⟨c, hc⟩ := Nat.gcd_dvd_left (lcN f k) (f k)
    rw [Nat.mul_comm (lcN f k) (f k), Nat.mul_div_assoc _ (Nat.gcd_dvd_left _ _), Nat.mul_comm]
theorem lcN_dvd {t : Nat} : ∀ {k : Nat}, (∀ j, j < k → f j ∣ t) → lcN f k ∣ t
  | 0, _ => Nat.one_dvd _
  | k + 1, h => by rw [lcN_s]; exact Nat.lcm_dvd (lcN_dvd (fun j hj => h j (by omega))) (h k (by omega))
theorem dvd_lcN : ∀ {k : Nat}, ∀ j, j < k → f j ∣ lcN f k
  | 0, j, hj => absurd hj (Nat.not_lt_zero _)
  | k + 1, j, hj => by
    rw [lcN_s]
    rcases Nat.lt_or_ge j k with q | q
    · exact Nat.dvd_trans (dvd_lcN j q) (Nat.dvd_lcm_left _ _)
    · rw [show j = k by omega]; exact Nat.dvd_lcm_right _ _
theorem okL_all : ∀ {k : Nat}, okL f k = true → (∀ j, j < k → f j ≠ 0) ∧ (0 < k → lcN f k ≤ 2000)
  | 0, _ => ⟨fun j hj => absurd hj (Nat.not_lt_zero _), fun h => absurd h (Nat.lt_irrefl _)⟩
  | k + 1, h => by
    rw [okL, Bool.and_eq_true, decide_eq_true_eq] at h
    refine ⟨fun j hj => ?_, fun _ => h.2.2⟩
    rcases Nat.lt_or_ge j k with q | q
    · exact (okL_all h.1).1 j q
    · rw [show j = k by omega]; exact h.2.1
theorem okL_no : ∀ {k : Nat}, okL f k = false → ∃ j, j < k ∧ (f j = 0 ∨ 2000 < lcN f (j + 1))
  | 0, h => absurd h (by unfold okL; decide)
  | k + 1, h => by
    rw [okL, Bool.and_eq_false_iff, decide_eq_false_iff_not] at h
    rcases h with h | h
    · obtain ⟨j, h1, h2⟩ := okL_no h
      exact ⟨j, by omega, h2⟩
    · refine ⟨k, by omega, ?_⟩
      rcases Nat.eq_zero_or_pos (f k) with q | q
      · exact Or.inl q
      · refine Or.inr (Nat.not_le.mp (fun z => h ⟨by omega, z⟩))
theorem lcN_pos : ∀ {k : Nat}, (∀ j, j < k → f j ≠ 0) → 0 < lcN f k
  | 0, _ => Nat.zero_lt_one
  | k + 1, h => by
    rw [lcN_s]
    exact Nat.lcm_pos (lcN_pos (fun j hj => h j (by omega))) (Nat.pos_of_ne_zero (h k (by omega)))
end LCM
theorem agB_all {B : Nat → Nat} {r o t : Nat} : ∀ {k : Nat}, agB B r o t k = true ↔ ∀ j, j < k → addO (kdB B j) (wdB B j) (rsB B (r * 6 + j)) (rsB B (o * 6 + j)) t = rsB B (r * 6 + j)
  | 0 => ⟨fun _ j hj => absurd hj (Nat.not_lt_zero _), fun _ => rfl⟩
  | k + 1 => by
    rw [agB, Bool.and_eq_true, agB_all (k := k), decide_eq_true_eq]
    constructor
    · rintro ⟨h1, h2⟩ j hj
      rcases Nat.lt_or_ge j k with q | q
      · exact h1 j q
      · rw [show j = k by omega]; exact h2
    · intro h
      exact ⟨fun j hj => h j (by omega), h k (by omega)⟩
theorem again_eq {B : Nat → Nat} (hm : mOk B) {r o : Nat} (hr : r < 4) (ho : o < 4) : agC (rnF (kdB B) (wdB B) (rsB B) r o) (B 0) = agI B r o := by
  have hsp : ∀ j, j < B 0 → (rnF (kdB B) (wdB B) (rsB B) r o j = 0 ∧ ∀ t, 0 < t → addO (kdB B j) (wdB B j) (rsB B (r * 6 + j)) (rsB B (o * 6 + j)) t ≠ rsB B (r * 6 + j)) ∨ (0 < rnF (kdB B) (wdB B) (rsB B) r o j ∧ ∀ t, addO (kdB B j) (wdB B j) (rsB B (r * 6 + j)) (rsB B (o * 6 + j)) t = rsB B (r * 6 + j) ↔ rnF (kdB B) (wdB B) (rsB B) r o j ∣ t) := fun j hj => rnd_spec (hm.row hr j hj) (hm.row ho j hj)
  generalize hf : rnF (kdB B) (wdB B) (rsB B) r o = f at *
  have hnz : ∀ t, 0 < t → agB B r o t (B 0) = true → ∀ j, j < B 0 → 0 < f j ∧ f j ∣ t := fun t ht ha j hj => by
    have h1 := agB_all.mp ha j hj
    rcases hsp j hj with ⟨z1, z2⟩ | ⟨z1, z2⟩
    · exact absurd h1 (z2 t ht)
    · exact ⟨z1, (z2 t).mp h1⟩
  unfold agC agI agR
  cases hk : okL f (B 0)
  · rw [if_neg (by decide)]
    obtain ⟨j, hj, h⟩ := okL_no hk
    rcases fstN_spec (fun t => agB B r o t (B 0)) 2000 1 Nat.zero_lt_one with ⟨h1, h2⟩ | ⟨h1, h2, h3, h4⟩
    · rw [if_pos h1]
    · exfalso
      generalize fstN (fun t => agB B r o t (B 0)) 1 2000 = T at *
      have hz := hnz T (by omega) h3
      rcases h with h | h
      · have := (hz j hj).1
        omega
      · have hd : lcN f (j + 1) ∣ T := lcN_dvd (fun i hi => (hz i (by omega)).2)
        have := Nat.le_of_dvd (by omega) hd
        omega
  · rw [if_pos rfl]
    have hall := okL_all hk
    have hpos := lcN_pos hall.1
    have hag : agB B r o (lcN f (B 0)) (B 0) = true := agB_all.mpr (fun j hj => by
      rcases hsp j hj with ⟨z1, z2⟩ | ⟨z1, z2⟩
      · exact absurd z1 (hall.1 j hj)
      · exact (z2 _).mpr (dvd_lcN j hj))
    have hle : lcN f (B 0) ≤ 2000 := by
      rcases Nat.eq_zero_or_pos (B 0) with q | q
      · rw [q, lcN]; omega
      · exact hall.2 q
    rcases fstN_spec (fun t => agB B r o t (B 0)) 2000 1 Nat.zero_lt_one with ⟨h1, h2⟩ | ⟨h1, h2, h3, h4⟩
    · have := h2 (lcN f (B 0)) hpos (by omega)
      rw [hag] at this
      exact absurd this (by decide)
    · rw [if_neg (by omega)]
      congr 1
      have hz := hnz _ (by omega) h3
      have hd : lcN f (B 0) ∣ fstN (fun t => agB B r o t (B 0)) 1 2000 := lcN_dvd (fun i hi => (hz i hi).2)
      have hge := Nat.le_of_dvd (by omega) hd
      rcases Nat.lt_or_ge (lcN f (B 0)) (fstN (fun t => agB B r o t (B 0)) 1 2000) with q | q
      · have := h4 (lcN f (B 0)) hpos q
        rw [hag] at this
        exact absurd this (by decide)
      · omega
