/-! numbers: products over some of the wheels, how many agree -/
def prP (W : Nat → Nat) (P : Nat → Bool) : Nat → Nat | 0 => 1 | j + 1 => prP W P j * (if P j then W j else 1)
def cnt (P : Nat → Bool) : Nat → Nat | 0 => 0 | j + 1 => cnt P j + (if P j then 1 else 0)
theorem prO_P (W : Nat → Nat) (o : Nat) : ∀ n, prO W o n = prP W (hasB o) n
  | 0 => rfl
  | n + 1 => by rw [prO, prP, prO_P W o n]
theorem prP_cg {W : Nat → Nat} {P Q : Nat → Bool} : ∀ {n : Nat}, (∀ j, j < n → P j = Q j) → prP W P n = prP W Q n
  | 0, _ => rfl
  | n + 1, h => by rw [prP, prP, prP_cg (fun j hj => h j (by omega)), h n (by omega)]
theorem cnt_cg {P Q : Nat → Bool} : ∀ {n : Nat}, (∀ j, j < n → P j = Q j) → cnt P n = cnt Q n
  | 0, _ => rfl
  | n + 1, h => by rw [cnt, cnt, cnt_cg (fun j hj => h j (by omega)), h n (by omega)]
theorem cnt_le (P : Nat → Bool) : ∀ n, cnt P n ≤ n
  | 0 => Nat.le_refl _
  | n + 1 => by
    have := cnt_le P n
    rw [cnt]; split <;> omega
theorem cnt_mono {P Q : Nat → Bool} : ∀ {n : Nat}, (∀ j, j < n → P j = true → Q j = true) → cnt P n ≤ cnt Q n
  | 0, _ => Nat.le_refl _
  | n + 1, h => by
    have h1 := cnt_mono (n := n) (fun j hj => h j (by omega))
    have h2 := h n (by omega)
    rw [cnt, cnt]
    cases hp : P n
    · simp; omega
    · rw [h2 hp]; simp; omega
section PRP
variable {n : Nat} {K W : Nat → Nat} {P : Nat → Bool}
theorem prP_dvd {j : Nat} (hp : P j = true) : ∀ n, j < n → W j ∣ prP W P n
  | 0, h => absurd h (Nat.not_lt_zero _)
  | n + 1, h => by
    rw [prP]
    rcases Nat.lt_or_ge j n with q | q
    · exact Nat.dvd_trans (prP_dvd hp n q) (Nat.dvd_mul_right _ _)
    · have e : j = n := by omega
      subst e
      rw [if_pos hp]
      exact Nat.dvd_mul_left _ _
theorem prP_pos (ok : wOk n K W) : ∀ j, j ≤ n → 0 < prP W P j
  | 0, _ => Nat.zero_lt_one
  | j + 1, h => by
    have := ok.2.2.1 j (by omega)
    rw [prP]
    exact Nat.mul_pos (prP_pos ok j (by omega)) (by split <;> omega)
theorem prP_cop (ok : wOk n K W) {k : Nat} (hk : k < n) : ∀ j, j ≤ k → Nat.Coprime (prP W P j) (W k)
  | 0, _ => Nat.coprime_one_left _
  | j + 1, h => by
    rw [prP]
    refine Nat.Coprime.mul_left (prP_cop ok hk j (by omega)) ?_
    split
    · exact ok.2.2.2 j k (by omega) hk
    · exact Nat.coprime_one_left _
theorem prP_all (ok : wOk n K W) {x : Nat} : ∀ k, k ≤ n → (∀ j, j < k → P j = true → W j ∣ x) → prP W P k ∣ x
  | 0, _, _ => Nat.one_dvd _
  | k + 1, h, hd => by
    rw [prP]
    have h1 := prP_all ok k (by omega) (fun j hj => hd j (by omega))
    cases hp : P k
    · simpa using h1
    · rw [if_pos rfl]
      exact Nat.Coprime.mul_dvd_of_dvd_of_dvd (prP_cop ok (by omega) k (Nat.le_refl k)) h1 (hd k (by omega) hp)
theorem mod_of_dvd {x y p : Nat} (h : x ≤ y) (hd : p ∣ y - x) : x % p = y % p := by
  obtain ⟨c, hc⟩ := hd
  rw [show y = x + p * c by omega, Nat.add_mul_mod_self_left]
theorem prP_mod (ok : wOk n K W) {x y : Nat} (h : ∀ j, j < n → P j = true → x % W j = y % W j) : x % prP W P n = y % prP W P n := by
  rcases Nat.le_total x y with q | q
  · exact mod_of_dvd q (prP_all ok n (Nat.le_refl _) (fun j hj hp => sub_dvd q (h j hj hp)))
  · exact (mod_of_dvd q (prP_all ok n (Nat.le_refl _) (fun j hj hp => sub_dvd q (h j hj hp).symm))).symm
theorem prP_res {x : Nat} {j : Nat} (hj : j < n) (hp : P j = true) : x % prP W P n % W j = x % W j := Nat.mod_mod_of_dvd _ (prP_dvd hp n hj)
end PRP
theorem hasB_tb (x k : Nat) : hasB x k = x.testBit k := by
  unfold hasB
  rw [Nat.testBit_eq_decide_div_mod_eq]
theorem hasB_orS (P : Nat → Bool) : ∀ n j, j < n → hasB (orS P n) j = P j
  | 0, j, h => absurd h (Nat.not_lt_zero _)
  | n + 1, j, h => by
    rw [hasB_tb, orS, Nat.testBit_or, ← hasB_tb]
    rcases Nat.lt_or_ge j n with q | q
    · rw [hasB_orS P n j q]
      cases hp : P n
      · simp
      · rw [if_pos rfl, Nat.testBit_two_pow]
        rw [decide_eq_false (by omega), Bool.or_false]
    · have e : j = n := by omega
      subst e
      rw [hasB_tb, Nat.testBit_lt_two_pow (orS_lt P j), Bool.false_or]
      cases hp : P j
      · simp
      · rw [if_pos rfl, Nat.testBit_two_pow, decide_eq_true rfl]
theorem popc_cnt {n o : Nat} (hn : n ≤ 6) (ho : o < 2 ^ n) : popc o = cnt (hasB o) n := by
  have hall : ∀ n : Fin 7, ∀ o : Fin 64, o.val < 2 ^ n.val → popc o.val = cnt (hasB o.val) n.val := by decide +kernel
  exact hall ⟨n, by omega⟩ ⟨o, Nat.lt_of_lt_of_le ho (two_b hn).2⟩ ho
theorem popc_orS {n : Nat} (hn : n ≤ 6) (P : Nat → Bool) : popc (orS P n) = cnt P n := by
  rw [popc_cnt hn (orS_lt P n)]
  exact cnt_cg (fun j hj => hasB_orS P n j hj)
theorem prO_orS (W : Nat → Nat) (P : Nat → Bool) (n : Nat) : prO W (orS P n) n = prP W P n := by
  rw [prO_P]
  exact prP_cg (fun j hj => hasB_orS P n j hj)
def agP (W rr : Nat → Nat) (v : Nat) : Nat → Bool := fun j => decide (v % W j = rr j)
theorem dfC_cnt (W rr : Nat → Nat) (v : Nat) : ∀ n, dfC W rr v n + cnt (agP W rr v) n = n
  | 0 => rfl
  | n + 1 => by
    have := dfC_cnt W rr v n
    rw [dfC, cnt]
    unfold agP
    by_cases h : v % W n = rr n
    · rw [if_pos h, decide_eq_true h, if_pos rfl]
      unfold agP at this
      omega
    · rw [if_neg h, decide_eq_false h]
      unfold agP at this
      simp
      omega
/-! nearest -/
section NEAR
variable {n : Nat} {K W : Nat → Nat} {rg v : Nat}
theorem mA_ge : ∀ {N o : Nat}, o < N → v % prO W o n < rg → popc o ≤ mA n W rg v N
  | 0, _, h, _ => absurd h (Nat.not_lt_zero _)
  | N + 1, o, h, h2 => by
    rw [mA]
    rcases Nat.lt_or_ge o N with q | q
    · have := mA_ge q h2
      split <;> omega
    · have e : o = N := by omega
      subst e
      rw [if_pos h2]; omega
theorem mA_ex : ∀ {N : Nat}, 0 < N → 0 < rg → ∃ o, o < N ∧ v % prO W o n < rg ∧ popc o = mA n W rg v N
  | 0, h, _ => absurd h (Nat.not_lt_zero _)
  | 1, _, hr => by
    refine ⟨0, Nat.zero_lt_one, ?_, ?_⟩
    · rw [prO_P, prP_cg (Q := fun _ => false) (fun j _ => by unfold hasB; simp)]
      have : ∀ n, prP W (fun _ => false) n = 1 := fun n => by
        induction n with
        | zero => rfl
        | succ n ih => rw [prP, ih]; rfl
      rw [this, Nat.mod_one]; exact hr
    · have e : popc 0 = 0 := rfl
      rw [e]
      rw [mA, mA, e]
      split <;> rfl
  | N + 2, _, hr => by
    obtain ⟨o, h1, h2, h3⟩ := mA_ex (N := N + 1) (Nat.succ_pos _) hr
    rw [mA]
    by_cases h : v % prO W (N + 1) n < rg
    · rw [if_pos h]
      rcases Nat.le_total (mA n W rg v (N + 1)) (popc (N + 1)) with q | q
      · exact ⟨N + 1, by omega, h, by omega⟩
      · exact ⟨o, by omega, h2, by omega⟩
    · rw [if_neg h]
      exact ⟨o, by omega, h2, h3⟩
theorem nrC_all {rr : Nat → Nat} : ∀ {N x : Nat}, x < N → nrC n W rr N ≤ dfC W rr x n
  | 0, _, h => absurd h (Nat.not_lt_zero _)
  | N + 1, x, h => by
    rw [nrC]
    rcases Nat.lt_or_ge x N with q | q
    · have := nrC_all (rr := rr) q
      split <;> omega
    · have e : x = N := by omega
      subst e
      split <;> omega
theorem nrC_ex {rr : Nat → Nat} (hn : n ≤ 6) : ∀ {N : Nat}, 0 < N → nrB n W rr N < N ∧ dfC W rr (nrB n W rr N) n = nrC n W rr N ∧ ∀ y, y < nrB n W rr N → nrC n W rr N < dfC W rr y n
  | 0, h => absurd h (Nat.not_lt_zero _)
  | 1, _ => by
    have := dfC_le W rr 0 n
    have e1 : nrC n W rr 1 = dfC W rr 0 n := by rw [nrC, nrC, if_pos (by omega)]
    have e2 : nrB n W rr 1 = 0 := by rw [nrB, nrC, if_pos (by omega)]
    rw [e1, e2]
    exact ⟨Nat.zero_lt_one, rfl, fun y hy => absurd hy (Nat.not_lt_zero _)⟩
  | N + 2, _ => by
    obtain ⟨h1, h2, h3⟩ := nrC_ex (rr := rr) hn (N := N + 1) (Nat.succ_pos _)
    have e1 : nrC n W rr (N + 2) = (if dfC W rr (N + 1) n < nrC n W rr (N + 1) then dfC W rr (N + 1) n else nrC n W rr (N + 1)) := rfl
    have e2 : nrB n W rr (N + 2) = (if dfC W rr (N + 1) n < nrC n W rr (N + 1) then N + 1 else nrB n W rr (N + 1)) := rfl
    rw [e1, e2]
    by_cases h : dfC W rr (N + 1) n < nrC n W rr (N + 1)
    · rw [if_pos h, if_pos h]
      exact ⟨by omega, rfl, fun y hy => Nat.lt_of_lt_of_le h (nrC_all (by omega))⟩
    · rw [if_neg h, if_neg h]
      exact ⟨by omega, h2, h3⟩
theorem near_o {rr : Nat → Nat} (hv : ∀ j, j < n → v % W j = rr j) {o : Nat} (hn : n ≤ 6) (ho : o < 2 ^ n) : dfC W rr (v % prO W o n) n + popc o ≤ n := by
  have h1 := dfC_cnt W rr (v % prO W o n) n
  have h2 : cnt (hasB o) n ≤ cnt (agP W rr (v % prO W o n)) n := cnt_mono (fun j hj hp => by
    unfold agP
    rw [prO_P, prP_res hj hp, hv j hj]
    exact decide_eq_true rfl)
  rw [popc_cnt hn ho]
  omega
theorem near_x (ok : wOk n K W) {rr : Nat → Nat} (hv : ∀ j, j < n → v % W j = rr j) {x : Nat} (hx : x < rg) : v % prO W (orS (agP W rr x) n) n ≤ x ∧ popc (orS (agP W rr x) n) + dfC W rr x n = n := by
  have h1 := dfC_cnt W rr x n
  rw [popc_orS ok.1, prO_orS]
  refine ⟨?_, by omega⟩
  rw [← prP_mod ok (x := x) (fun j hj hp => (of_decide_eq_true hp).trans (hv j hj).symm)]
  exact Nat.mod_le _ _
theorem near_1 (ok : wOk n K W) {rr : Nat → Nat} (hv : ∀ j, j < n → v % W j = rr j) (hr : 0 < rg) : nrC n W rr rg + mA n W rg v (2 ^ n) = n := by
  obtain ⟨o, h1, h2, h3⟩ := mA_ex (n := n) (W := W) (v := v) (two_b ok.1).1 hr
  obtain ⟨g1, g2, g3⟩ := nrC_ex (W := W) (rr := rr) ok.1 hr
  have k1 := near_o hv ok.1 h1
  have k2 := nrC_all (n := n) (W := W) (rr := rr) h2
  have k3 := near_x ok hv g1
  have k4 := mA_ge (n := n) (W := W) (rg := rg) (v := v) (orS_lt (agP W rr (nrB n W rr rg)) n) (Nat.lt_of_le_of_lt k3.1 g1)
  omega
theorem lA_all {al : Nat} : ∀ {N o : Nat}, o < N → popc o = al → lA n W rg v al N ≤ v % prO W o n
  | 0, _, h, _ => absurd h (Nat.not_lt_zero _)
  | N + 1, o, h, h2 => by
    rw [lA]
    rcases Nat.lt_or_ge o N with q | q
    · have := lA_all q h2
      split <;> omega
    · have e : o = N := by omega
      subst e
      rw [if_pos h2]; omega
theorem lA_ex {al : Nat} : ∀ N, lA n W rg v al N = rg ∨ ∃ o, o < N ∧ popc o = al ∧ lA n W rg v al N = v % prO W o n
  | 0 => Or.inl rfl
  | N + 1 => by
    rw [lA]
    by_cases h : popc N = al
    · rw [if_pos h]
      rcases Nat.le_total (lA n W rg v al N) (v % prO W N n) with q | q
      · rw [Nat.min_eq_left q]
        rcases lA_ex (al := al) N with z | ⟨o, z1, z2, z3⟩
        · exact Or.inl z
        · exact Or.inr ⟨o, by omega, z2, z3⟩
      · rw [Nat.min_eq_right q]
        exact Or.inr ⟨N, by omega, h, rfl⟩
    · rw [if_neg h]
      rcases lA_ex (al := al) N with z | ⟨o, z1, z2, z3⟩
      · exact Or.inl z
      · exact Or.inr ⟨o, by omega, z2, z3⟩
theorem near_0 (ok : wOk n K W) {rr : Nat → Nat} (hv : ∀ j, j < n → v % W j = rr j) (hr : 0 < rg) : lA n W rg v (mA n W rg v (2 ^ n)) (2 ^ n) = nrB n W rr rg := by
  have e1 := near_1 ok hv hr
  obtain ⟨g1, g2, g3⟩ := nrC_ex (W := W) (rr := rr) ok.1 hr
  have k3 := near_x ok hv g1
  have hp : popc (orS (agP W rr (nrB n W rr rg)) n) = mA n W rg v (2 ^ n) := by omega
  have k5 := lA_all (n := n) (W := W) (rg := rg) (v := v) (orS_lt (agP W rr (nrB n W rr rg)) n) hp
  rcases lA_ex (n := n) (W := W) (rg := rg) (v := v) (al := mA n W rg v (2 ^ n)) (2 ^ n) with z | ⟨o, z1, z2, z3⟩
  · rw [z] at k5; omega
  · have k6 := near_o hv ok.1 z1
    rcases Nat.lt_or_ge (lA n W rg v (mA n W rg v (2 ^ n)) (2 ^ n)) (nrB n W rr rg) with q | q
    · have k7 := g3 _ q
      rw [z3] at k7
      omega
    · omega
end NEAR
/-! apart -/
section APART
variable {n : Nat} {K W : Nat → Nat} {rg : Nat}
theorem fU_ge : ∀ {N o : Nat}, o < N → prO W o n < rg → popc o ≤ fU n W rg N
  | 0, _, h, _ => absurd h (Nat.not_lt_zero _)
  | N + 1, o, h, h2 => by
    rw [fU]
    rcases Nat.lt_or_ge o N with q | q
    · have := fU_ge q h2
      split <;> omega
    · have e : o = N := by omega
      subst e
      rw [if_pos h2]; omega
theorem prO_none (W : Nat → Nat) (n : Nat) : prO W 0 n = 1 := by
  induction n with
  | zero => rfl
  | succ n ih => rw [prO, ih]; unfold hasB; simp
theorem fU_ex : ∀ {N : Nat}, 0 < N → 1 < rg → ∃ o, o < N ∧ prO W o n < rg ∧ popc o = fU n W rg N
  | 0, h, _ => absurd h (Nat.not_lt_zero _)
  | 1, _, hr => by
    refine ⟨0, Nat.zero_lt_one, by rw [prO_none]; exact hr, ?_⟩
    have e : popc 0 = 0 := rfl
    rw [e, fU, fU, e]
    split <;> rfl
  | N + 2, _, hr => by
    obtain ⟨o, h1, h2, h3⟩ := fU_ex (N := N + 1) (Nat.succ_pos _) hr
    rw [fU]
    by_cases h : prO W (N + 1) n < rg
    · rw [if_pos h]
      rcases Nat.le_total (fU n W rg (N + 1)) (popc (N + 1)) with q | q
      · exact ⟨N + 1, by omega, h, by omega⟩
      · exact ⟨o, by omega, h2, by omega⟩
    · rw [if_neg h]
      exact ⟨o, by omega, h2, h3⟩
theorem apC_1 (n : Nat) (W : Nat → Nat) : apC n W 1 = 1000000000 := by rw [apC]; rfl
theorem apC_s {N : Nat} (h : 0 < N) : apC n W (N + 1) = (if dfC W (fun _ => 0) N n < apC n W N then dfC W (fun _ => 0) N n else apC n W N) := by rw [apC, if_neg (by omega)]
theorem apC_all : ∀ {N x : Nat}, 0 < x → x < N → apC n W N ≤ dfC W (fun _ => 0) x n
  | 0, _, _, h => absurd h (Nat.not_lt_zero _)
  | N + 1, x, h0, h => by
    rw [apC_s (by omega)]
    rcases Nat.lt_or_ge x N with q | q
    · have := apC_all h0 q
      split <;> omega
    · have e : x = N := by omega
      subst e
      split <;> omega
theorem apC_ex (hn : n ≤ 6) : ∀ {N : Nat}, 1 < N → ∃ x, 0 < x ∧ x < N ∧ apC n W N = dfC W (fun _ => 0) x n
  | 0, h => absurd h (Nat.not_lt_zero _)
  | 1, h => absurd h (Nat.lt_irrefl _)
  | 2, _ => by
    have := dfC_le W (fun _ => 0) 1 n
    exact ⟨1, Nat.zero_lt_one, by omega, by rw [apC_s Nat.zero_lt_one, apC_1, if_pos (by omega)]⟩
  | N + 3, _ => by
    obtain ⟨x, h1, h2, h3⟩ := apC_ex hn (N := N + 2) (by omega)
    rw [apC_s (by omega)]
    split
    · exact ⟨N + 2, by omega, by omega, rfl⟩
    · exact ⟨x, h1, by omega, h3⟩
theorem ap_o {o : Nat} (hn : n ≤ 6) (ho : o < 2 ^ n) : dfC W (fun _ => 0) (prO W o n) n + popc o ≤ n := by
  have h1 := dfC_cnt W (fun _ => 0) (prO W o n) n
  have h2 : cnt (hasB o) n ≤ cnt (agP W (fun _ => 0) (prO W o n)) n := cnt_mono (fun j hj hp => by
    unfold agP
    rw [prO_P]
    exact decide_eq_true (Nat.mod_eq_zero_of_dvd (prP_dvd hp n hj)))
  rw [popc_cnt hn ho]
  omega
theorem ap_x (ok : wOk n K W) {x : Nat} (hx : 0 < x) : prO W (orS (agP W (fun _ => 0) x) n) n ≤ x ∧ popc (orS (agP W (fun _ => 0) x) n) + dfC W (fun _ => 0) x n = n := by
  have h1 := dfC_cnt W (fun _ => 0) x n
  rw [popc_orS ok.1, prO_orS]
  exact ⟨Nat.le_of_dvd hx (prP_all ok n (Nat.le_refl _) (fun j hj hp => Nat.dvd_of_mod_eq_zero (of_decide_eq_true hp))), by omega⟩
theorem apart_eq (ok : wOk n K W) (hr : 0 < rg) : (if rg = 1 then (-4) else nI (n - fU n W rg (2 ^ n))) = apI n W rg := by
  unfold apI
  by_cases h : rg = 1
  · rw [if_pos h, h, apC_1, if_pos rfl]
  · rw [if_neg h]
    obtain ⟨o, h1, h2, h3⟩ := fU_ex (n := n) (W := W) (two_b ok.1).1 (show 1 < rg by omega)
    obtain ⟨x, g1, g2, g3⟩ := apC_ex (n := n) (W := W) ok.1 (show 1 < rg by omega)
    have k1 := ap_o (W := W) ok.1 h1
    have hpos : 0 < prO W o n := (prO_b ok o (Nat.le_refl _)).1
    have k2 := apC_all (n := n) (W := W) hpos h2
    have k3 := ap_x ok g1
    have k4 := fU_ge (n := n) (W := W) (rg := rg) (orS_lt (agP W (fun _ => 0) x) n) (Nat.lt_of_le_of_lt k3.1 g2)
    have k5 := dfC_le W (fun _ => 0) x n
    have := ok.1
    rw [if_neg (by omega)]
    congr 1
    omega
end APART
