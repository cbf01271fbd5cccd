/-! figure, blame, unseen, rubbed, the shares -/
theorem dvs_div (W : Nat → Nat) (v : Nat) : ∀ k, dvs W v k = v / prW W k
  | 0 => by rw [dvs, prW, Nat.div_one]
  | k + 1 => by rw [dvs, prW, dvs_div W v k, Nat.div_div_eq_div_mul]
def nePB (k : Nat) : Nat → Bool := fun i => decide (i ≠ k)
theorem prP_true {W : Nat → Nat} {P : Nat → Bool} : ∀ {n : Nat}, (∀ j, j < n → P j = true) → prP W P n = prW W n
  | 0, _ => rfl
  | n + 1, h => by rw [prP, prW, prP_true (fun j hj => h j (by omega)), if_pos (h n (by omega))]
theorem prP_ne {W : Nat → Nat} {j : Nat} : ∀ {n : Nat}, j < n → prP W (nePB j) n * W j = prW W n
  | 0, h => absurd h (Nat.not_lt_zero _)
  | n + 1, h => by
    rw [prP, prW]
    rcases Nat.lt_or_ge j n with q | q
    · rw [if_pos (show nePB j n = true from decide_eq_true (by omega)), Nat.mul_right_comm, prP_ne q]
    · have e : j = n := by omega
      subst e
      rw [if_neg (by unfold nePB; simp), Nat.mul_one, prP_true (P := nePB j) (fun i hi => decide_eq_true (by omega))]
theorem prP_copr {W : Nat → Nat} {P : Nat → Bool} {x : Nat} : ∀ {n : Nat}, (∀ j, j < n → P j = true → Nat.Coprime (W j) x) → Nat.Coprime (prP W P n) x
  | 0, _ => Nat.coprime_one_left _
  | n + 1, h => by
    rw [prP]
    refine Nat.Coprime.mul_left (prP_copr (fun j hj => h j (by omega))) ?_
    cases hp : P n
    · simp [Nat.coprime_one_left]
    · rw [if_pos rfl]; exact h n (by omega) hp
theorem sp_div {n : Nat} {K W : Nat → Nat} (ok : wOk n K W) {j : Nat} (hj : j < n) : prW W n / W j = prP W (nePB j) n := by
  have := ok.2.2.1 j hj
  rw [← prP_ne hj, Nat.mul_div_cancel _ (by omega)]
theorem cop_of {n : Nat} {K W : Nat → Nat} (ok : wOk n K W) {i j : Nat} (hi : i < n) (hj : j < n) (h : i ≠ j) : Nat.Coprime (W i) (W j) := by
  rcases Nat.lt_or_ge i j with q | q
  · exact ok.2.2.2 i j q hj
  · exact (show Nat.Coprime (W j) (W i) from ok.2.2.2 j i (by omega) hi).symm
theorem orS_cg {P Q : Nat → Bool} : ∀ {n : Nat}, (∀ j, j < n → P j = Q j) → orS P n = orS Q n
  | 0, _ => rfl
  | n + 1, h => by rw [orS, orS, orS_cg (fun j hj => h j (by omega)), h n (by omega)]
theorem blI_ex {n : Nat} {W r : Nat → Nat} {rg k : Nat} : ∀ v, blI n W r rg k v = true ↔ ∃ x, x < v ∧ x ≠ r k ∧ Val n W (uN r k x) < rg
  | 0 => by
    constructor
    · intro h; exact absurd h (by unfold blI; decide)
    · rintro ⟨x, h, -⟩; exact absurd h (Nat.not_lt_zero _)
  | v + 1 => by
    rw [blI, Bool.or_eq_true, blI_ex v, Bool.and_eq_true, decide_eq_true_eq, decide_eq_true_eq]
    constructor
    · rintro (⟨x, h1, h2⟩ | h)
      · exact ⟨x, by omega, h2⟩
      · exact ⟨v, by omega, h⟩
    · rintro ⟨x, h1, h2⟩
      rcases Nat.lt_or_ge x v with q | q
      · exact Or.inl ⟨x, q, h2⟩
      · have e : x = v := by omega
        subst e
        exact Or.inr h2
theorem bl_bit {n : Nat} {K W r : Nat → Nat} {rg v k : Nat} (ok : wOk n K W) (hr : ∀ j, j < n → r j < W j) (hv : isVal n W r v) (hl : ¬ v < rg) (hk : k < n) : decide (v % (prW W n / W k) < rg) = blI n W r rg k (W k) := by
  rw [sp_div ok hk]
  have hw := ok.2.2.1 k hk
  have hpos := prP_pos (P := nePB k) ok n (Nat.le_refl _)
  have hne := prP_ne (W := W) hk
  have key : ∀ x, x < prW W n → (∀ j, j < n → j ≠ k → x % W j = r j) → Val n W (uN r k (x % W k)) = x := fun x hx h => (Val_eq ok ⟨hx, fun j hj => by
    by_cases e : j = k
    · subst e; rw [uN_eq]
    · rw [uN_ne e]; exact h j hj e⟩).symm
  apply Bool.eq_iff_iff.mpr
  rw [blI_ex, decide_eq_true_eq]
  constructor
  · intro h
    have hx : v % prP W (nePB k) n < prW W n := by
      have h1 := Nat.mod_lt v hpos
      have h2 : prP W (nePB k) n * 1 ≤ prP W (nePB k) n * W k := Nat.mul_le_mul_left _ (by omega)
      omega
    have hj : ∀ j, j < n → j ≠ k → v % prP W (nePB k) n % W j = r j := fun j hj e => by
      rw [prP_res hj (decide_eq_true e)]; exact hv.2 j hj
    refine ⟨v % prP W (nePB k) n % W k, Nat.mod_lt _ (by omega), ?_, ?_⟩
    · intro e
      have : v % prP W (nePB k) n = v := isVal_one ok (r := r) ⟨hx, fun j h3 => by
        by_cases q : j = k
        · subst q; exact e
        · exact hj j h3 q⟩ hv
      rw [this] at h
      exact hl h
    · rw [key _ hx hj]; exact h
  · rintro ⟨x, h1, h2, h3⟩
    have hu : ∀ j, j < n → uN r k x j < W j := fun j hj => by
      by_cases e : j = k
      · subst e; rw [uN_eq]; exact h1
      · rw [uN_ne e]; exact hr j hj
    have hi := Val_is ok hu (Nat.le_refl n)
    have hm : Val n W (uN r k x) % prP W (nePB k) n = v % prP W (nePB k) n := prP_mod ok (fun j hj hp => by
      have e : j ≠ k := of_decide_eq_true hp
      rw [hi.2 j hj, uN_ne e, hv.2 j hj])
    rw [← hm]
    exact Nat.lt_of_le_of_lt (Nat.mod_le _ _) h3
/-! unseen -/
theorem wyN_pw (c o : Nat) : ∀ k, wyN c o k = c ^ cnt (hasB o) k * (10 - c) ^ (k - cnt (hasB o) k)
  | 0 => rfl
  | k + 1 => by
    have h := cnt_le (hasB o) k
    rw [wyN, wyN_pw c o k, cnt]
    cases hb : hasB o k
    · rw [if_neg (by decide), if_neg (by decide), Nat.add_zero, show k + 1 - cnt (hasB o) k = (k - cnt (hasB o) k) + 1 by omega, Nat.pow_succ, Nat.mul_assoc]
    · rw [if_pos rfl, if_pos rfl, show k + 1 - (cnt (hasB o) k + 1) = k - cnt (hasB o) k by omega, Nat.pow_succ, Nat.mul_right_comm]
theorem tOn_mod {n : Nat} {K W S : Nat → Nat} {v o : Nat} (ok : wOk n K W) (hS : shOk n W S (prW W n)) {i : Nat} (hi : i < n) : ∀ k, k ≤ n → tOn S (prW W n) v o k % W i = (v + (if i < k ∧ hasB o i = true then 1 else 0)) % W i
  | 0, _ => by rw [tOn, if_neg (by omega)]; rfl
  | k + 1, h => by
    have ih := tOn_mod (v := v) (o := o) ok hS hi k (by omega)
    have hd : W i ∣ prW W n := prW_dvd W n hi
    rw [tOn]
    by_cases hb : hasB o k = true
    · rw [if_pos hb, Nat.mod_mod_of_dvd _ hd]
      obtain ⟨s1, s2, s3⟩ := hS k (by omega)
      by_cases e : i = k
      · subst e
        rw [if_pos ⟨by omega, hb⟩, Nat.add_mod, ih, s2, if_neg (by omega), Nat.add_zero]
        conv => rhs; rw [Nat.add_mod]
        have hw := ok.2.2.1 i hi
        rw [Nat.mod_eq_of_lt (show 1 < W i by omega)]
        exact congrArg (fun z => (z % W i + 1) % W i) (Nat.add_zero v)
      · rw [Nat.add_mod, ih, s3 i hi e, Nat.add_zero, Nat.mod_mod]
        congr 2
        by_cases q : i < k ∧ hasB o i = true
        · rw [if_pos q, if_pos ⟨by omega, q.2⟩]
        · rw [if_neg q, if_neg (fun z => q ⟨by omega, z.2⟩)]
    · rw [if_neg hb, ih]
      congr 2
      by_cases q : i < k ∧ hasB o i = true
      · rw [if_pos q, if_pos ⟨by omega, q.2⟩]
      · rw [if_neg q, if_neg (fun z => by
          by_cases e : i = k
          · subst e; exact hb z.2
          · exact q ⟨by omega, z.2⟩)]
theorem tOn_val {n : Nat} {K W S r : Nat → Nat} {v o : Nat} (ok : wOk n K W) (hS : shOk n W S (prW W n)) (hr : ∀ j, j < n → r j < W j) (hv : isVal n W r v) : tOn S (prW W n) v o n = Val n W (trN W r o) := Val_eq ok ⟨tOn_lt o hv.1 n, fun i hi => by
  rw [tOn_mod ok hS hi n (Nat.le_refl _)]
  unfold trN
  cases hb : hasB o i
  · rw [if_neg (by simp), if_neg (by decide), Nat.add_zero]; exact hv.2 i hi
  · rw [if_pos ⟨hi, rfl⟩, if_pos rfl, Nat.add_mod, hv.2 i hi]
    conv => rhs; rw [Nat.add_mod]
    rw [Nat.mod_eq_of_lt (hr i hi)]⟩
theorem unseen_eq {n : Nat} {K W S r : Nat → Nat} {v rg ch : Nat} (ok : wOk n K W) (hS : shOk n W S (prW W n)) (hr : ∀ j, j < n → r j < W j) (hv : isVal n W r v) : ∀ N, N ≤ 2 ^ n → uC n S (prW W n) rg v ch N = upN n W r rg ch N
  | 0, _ => rfl
  | N + 1, h => by
    rw [uC, upN, unseen_eq ok hS hr hv N (by omega), tOn_val ok hS hr hv, wyN_pw, popc_cnt ok.1 (show N < 2 ^ n by omega)]
/-! the shares that the class finds -/
theorem shI_is {oth w : Nat} {old : Int32} (h : ∃ k, k < w ∧ oth * k % w = 1) : ∀ m, (∃ k, k < m ∧ oth * k % w = 1) → ∃ k, k < m ∧ oth * k % w = 1 ∧ shI oth w old m = nI (oth * k)
  | 0, ⟨k, hk, _⟩ => absurd hk (Nat.not_lt_zero _)
  | m + 1, ⟨k, hk, he⟩ => by
    rw [shI]
    by_cases q : oth * m % w = 1
    · rw [if_pos q]; exact ⟨m, by omega, q, rfl⟩
    · rw [if_neg q]
      have hne : k ≠ m := fun z => q (by rw [← z]; exact he)
      obtain ⟨k2, h1, h2, h3⟩ := shI_is (old := old) h m ⟨k, by omega, he⟩
      exact ⟨k2, by omega, h2, h3⟩
theorem sh_one {n : Nat} {K W : Nat → Nat} (ok : wOk n K W) (sf : Nat → Int32) {j : Nat} (hj : j < n) : ∃ x, shF W (prW W n) sf n j = nI x ∧ x < prW W n ∧ x % W j = 1 ∧ ∀ i, i < n → i ≠ j → x % W i = 0 := by
  have hw := ok.2.2.1 j hj
  unfold shF
  rw [if_pos hj, sp_div ok hj]
  have hc : Nat.Coprime (prP W (nePB j) n) (W j) := prP_copr (fun i hi hp => cop_of ok hi hj (of_decide_eq_true hp))
  obtain ⟨k, hk, he⟩ := next_i hc (show 0 < W j by omega) 0 (show 1 < W j by omega)
  rw [Nat.zero_add, Nat.mul_comm] at he
  obtain ⟨k2, h1, h2, h3⟩ := shI_is (old := sf j) ⟨k, hk, he⟩ (W j) ⟨k, hk, he⟩
  refine ⟨_, h3, ?_, h2, fun i hi hne => ?_⟩
  · rw [← prP_ne hj]
    exact Nat.mul_lt_mul_of_pos_left h1 (prP_pos ok n (Nat.le_refl _))
  · obtain ⟨c, hc⟩ := prP_dvd (W := W) (P := nePB j) (j := i) (decide_eq_true hne) n hi
    rw [hc, Nat.mul_assoc, Nat.mul_mod_right]
theorem sh_all {n : Nat} {K W : Nat → Nat} (ok : wOk n K W) (sf : Nat → Int32) : ∃ S : Nat → Nat, isA n (shF W (prW W n) sf n) S ∧ shOk n W S (prW W n) := by
  have h : ∀ j, ∃ x, j < n → (shF W (prW W n) sf n j = nI x ∧ x < prW W n ∧ x % W j = 1 ∧ ∀ i, i < n → i ≠ j → x % W i = 0) := fun j => by
    by_cases q : j < n
    · obtain ⟨x, hx⟩ := sh_one ok sf q
      exact ⟨x, fun _ => hx⟩
    · exact ⟨0, fun z => absurd z q⟩
  refine ⟨fun j => Classical.choose (h j), fun j hj => (Classical.choose_spec (h j) hj).1, fun j hj => (Classical.choose_spec (h j) hj).2⟩
/-! rubbed -/
section RUB
variable {n : Nat} {K W S : Nat → Nat} {row : Nat → Int64} {a rg : Nat}
def rrN (row : Nat → Int64) (a : Nat) : Nat → Nat := fun j => if row (a + j) = -1 then 0 else (row (a + j)).toInt.toNat
theorem vF_vS (hs : 0 < prW W n) : ∀ k, vF S (prW W n) row a k = vS S (rrN row a) (prW W n) k
  | 0 => rfl
  | k + 1 => by
    rw [vF, vS, vF_vS hs k]
    unfold rrN
    by_cases h : row (a + k) = -1
    · rw [if_pos h, if_pos h, Nat.zero_mul, Nat.add_zero, Nat.mod_eq_of_lt (vS_lt hs k)]
    · rw [if_neg h, if_neg h]
theorem okR_all : ∀ {k : Nat}, okR W row a k = true → ∀ j, j < k → -1 ≤ (row (a + j)).toInt ∧ (row (a + j)).toInt < (W j : Int)
  | 0, _, j, hj => absurd hj (Nat.not_lt_zero _)
  | k + 1, h, j, hj => by
    rw [okR, Bool.and_eq_true, decide_eq_true_eq] at h
    rcases Nat.lt_or_ge j k with q | q
    · exact okR_all h.1 j q
    · rw [show j = k by omega]; exact h.2
theorem okR_no : ∀ {k : Nat}, okR W row a k = false → ∃ j, j < k ∧ ¬ (-1 ≤ (row (a + j)).toInt ∧ (row (a + j)).toInt < (W j : Int))
  | 0, h => absurd h (by unfold okR; decide)
  | k + 1, h => by
    rw [okR, Bool.and_eq_false_iff, decide_eq_false_iff_not] at h
    rcases h with h | h
    · obtain ⟨j, h1, h2⟩ := okR_no h
      exact ⟨j, by omega, h2⟩
    · exact ⟨k, by omega, h⟩
theorem ftB_all : ∀ {v k : Nat}, ftB W row a v k = true ↔ ∀ j, j < k → row (a + j) = -1 ∨ row (a + j) = (nI (v % W j)).toInt64
  | v, 0 => ⟨fun _ j hj => absurd hj (Nat.not_lt_zero _), fun _ => rfl⟩
  | v, k + 1 => by
    rw [ftB, Bool.and_eq_true, ftB_all (k := k), Bool.or_eq_true, decide_eq_true_eq, decide_eq_true_eq]
    constructor
    · rintro ⟨h1, h2⟩ j hj
      rcases Nat.lt_or_ge j k with q | q
      · exact h1 j q
      · rw [show j = k by omega]; exact h2
    · intro h
      exact ⟨fun j hj => h j (by omega), h k (by omega)⟩
theorem m1_toInt : (-1 : Int64).toInt = -1 := by decide
theorem row_ne {x : Int64} (h : x ≠ -1) (h1 : -1 ≤ x.toInt) : 0 ≤ x.toInt := by
  have : x.toInt ≠ (-1 : Int64).toInt := fun q => h (Int64.toInt_inj.mp q)
  rw [m1_toInt] at this
  omega
theorem row_eq {x : Int64} {y : Nat} (hy : y < 2 ^ 31) (h0 : 0 ≤ x.toInt) : x = (nI y).toInt64 ↔ x.toInt.toNat = y := by
  rw [← Int64.toInt_inj, i2l_toInt hy]
  omega
theorem rb_fit (ok : wOk n K W) (hS : shOk n W S (prW W n)) (hk : okR W row a n = true) (v : Nat) : ftB W row a v n = decide (v % prO W (orS (tldB row a) n) n = vF S (prW W n) row a n % prO W (orS (tldB row a) n) n) := by
  rw [prO_orS]
  have hall := okR_all hk
  have hrr : ∀ j, j < n → rrN row a j < W j := fun j hj => by
    have h1 := hall j hj
    have h2 := ok.2.2.1 j hj
    unfold rrN
    split
    · omega
    · omega
  have hm : ∀ j, j < n → vF S (prW W n) row a n % W j = rrN row a j := fun j hj => by
    rw [vF_vS (prW_b ok (Nat.le_refl n)).1, vS_mod ok hS hrr hj n (Nat.le_refl n), if_pos hj]
  apply Bool.eq_iff_iff.mpr
  rw [ftB_all, decide_eq_true_eq]
  constructor
  · intro h
    refine prP_mod ok (fun j hj hp => ?_)
    have hne : row (a + j) ≠ -1 := by
      unfold tldB at hp
      simpa using hp
    rw [hm j hj]
    unfold rrN
    rw [if_neg hne]
    have h2 := ok.2.2.1 j hj
    have h3 := Nat.mod_lt v (show 0 < W j by omega)
    rcases h j hj with q | q
    · exact absurd q hne
    · exact ((row_eq (by omega) (row_ne hne (hall j hj).1)).mp q).symm
  · intro h j hj
    by_cases hne : row (a + j) = -1
    · exact Or.inl hne
    · refine Or.inr ?_
      have hp : tldB row a j = true := by unfold tldB; simp [hne]
      have h2 := ok.2.2.1 j hj
      have h3 := Nat.mod_lt v (show 0 < W j by omega)
      refine (row_eq (by omega) (row_ne hne (hall j hj).1)).mpr ?_
      have e := hm j hj
      unfold rrN at e
      rw [if_neg hne] at e
      rw [← e, ← prP_res (W := W) (x := v) hj hp, h, prP_res hj hp]
theorem rb_no (ok : wOk n K W) (hk : okR W row a n = false) (v : Nat) : ftB W row a v n = false := by
  obtain ⟨j, hj, h⟩ := okR_no hk
  cases hf : ftB W row a v n
  · rfl
  · exfalso
    apply h
    have h2 := ok.2.2.1 j hj
    have h3 := Nat.mod_lt v (show 0 < W j by omega)
    rcases ftB_all.mp hf j hj with q | q
    · rw [q, m1_toInt]; omega
    · rw [q, i2l_toInt (by omega)]; omega
/-- numbers below N that leave m by P: the first, and how many -/
theorem rb_cnt {m P : Nat} (hm : m < P) (hf : ∀ v, ftB W row a v n = decide (v % P = m)) : ∀ N, rbC n W row a N = (if m < N then (N - 1 - m) / P + 1 else 0) ∧ rbL n W row a N = (if m < N then nI m else -4)
  | 0 => ⟨rfl, rfl⟩
  | N + 1 => by
    obtain ⟨h1, h2⟩ := rb_cnt hm hf N
    rw [rbC, rbL, hf N, h1, h2]
    have hP : 0 < P := by omega
    rcases Nat.lt_trichotomy m N with q | q | q
    · rw [if_pos q, if_pos (show m < N + 1 by omega), if_pos q, if_pos (show m < N + 1 by omega)]
      by_cases e : N % P = m
      · rw [decide_eq_true e, if_pos rfl, if_neg (by simp)]
        refine ⟨?_, rfl⟩
        congr 1
        have e1 := Nat.div_add_mod N P
        have hd : N / P ≠ 0 := fun z => by rw [z, Nat.mul_zero] at e1; omega
        rw [show N + 1 - 1 - m = P * (N / P) by omega, Nat.mul_div_cancel_left _ hP]
        have e2 : N - 1 - m = P * (N / P - 1) + (P - 1) := by
          obtain ⟨z, hz⟩ := Nat.exists_eq_succ_of_ne_zero hd
          rw [hz, Nat.succ_sub_one]
          rw [hz, Nat.mul_succ] at e1
          omega
        rw [e2, Nat.mul_add_div hP, Nat.div_eq_of_lt (show P - 1 < P by omega), Nat.add_zero]
        exact Nat.sub_add_cancel (Nat.pos_of_ne_zero hd)
      · rw [decide_eq_false e, if_neg (by decide), if_neg (by simp)]
        refine ⟨?_, rfl⟩
        rw [Nat.add_zero]
        congr 1
        have e1 := Nat.div_add_mod (N - 1 - m) P
        have e2 := Nat.mod_lt (N - 1 - m) hP
        rw [show N + 1 - 1 - m = (N - 1 - m) + 1 by omega]
        have hne : (N - 1 - m) % P + 1 ≠ P := fun z => by
          apply e
          have : N = m + P * ((N - 1 - m) / P + 1) := by rw [Nat.mul_succ]; omega
          rw [this, Nat.add_mul_mod_self_left, Nat.mod_eq_of_lt hm]
        rw [← e1, show P * ((N - 1 - m) / P) + (N - 1 - m) % P + 1 = P * ((N - 1 - m) / P) + ((N - 1 - m) % P + 1) by omega, Nat.mul_add_div hP, Nat.mul_add_div hP, Nat.div_eq_of_lt (show (N - 1 - m) % P + 1 < P by omega), Nat.div_eq_of_lt e2]
    · subst q
      rw [if_neg (Nat.lt_irrefl _), if_neg (Nat.lt_irrefl _), if_pos (Nat.lt_succ_self _), if_pos (Nat.lt_succ_self _), decide_eq_true (Nat.mod_eq_of_lt hm), if_pos rfl, if_pos ⟨rfl, rfl⟩]
      refine ⟨?_, rfl⟩
      rw [show m + 1 - 1 - m = 0 by omega, Nat.zero_div]
    · rw [if_neg (show ¬ m < N by omega), if_neg (show ¬ m < N by omega), if_neg (show ¬ m < N + 1 by omega), if_neg (show ¬ m < N + 1 by omega), Nat.mod_eq_of_lt (show N < P by omega), decide_eq_false (by omega)]
      exact ⟨rfl, by simp⟩
theorem rb_none (hf : ∀ v, ftB W row a v n = false) : ∀ N, rbC n W row a N = 0 ∧ rbL n W row a N = -4
  | 0 => ⟨rfl, rfl⟩
  | N + 1 => by
    obtain ⟨h1, h2⟩ := rb_none hf N
    rw [rbC, rbL, hf N, h1, h2]
    exact ⟨rfl, by simp⟩
theorem nI_n4 {m : Nat} (h : m < 2 ^ 31) : nI m ≠ -4 := fun q => by
  have := congrArg Int32.toInt q
  rw [nI_toInt h] at this
  have z : (-4 : Int32).toInt = -4 := rfl
  omega
theorem rub_eq (ok : wOk n K W) (hS : shOk n W S (prW W n)) (hrg : rg ≤ 47045881) : rbX n W S (prW W n) rg row a = rbC n W row a rg ∧ lfI n W S (prW W n) rg row a = rbL n W row a rg := by
  cases hk : okR W row a n
  · obtain ⟨h1, h2⟩ := rb_none (fun v => rb_no ok hk v) rg
    have el : lfI n W S (prW W n) rg row a = -4 := by unfold lfI; rw [hk]; rfl
    unfold rbX
    rw [h1, h2, el, if_pos rfl]
    exact ⟨rfl, rfl⟩
  · have hP := (prO_b ok (orS (tldB row a) n) (Nat.le_refl n)).1
    obtain ⟨h1, h2⟩ := rb_cnt (Nat.mod_lt (vF S (prW W n) row a n) (show 0 < prO W (orS (tldB row a) n) n by omega)) (fun v => rb_fit ok hS hk v) rg
    have el : lfI n W S (prW W n) rg row a = (if vF S (prW W n) row a n % prO W (orS (tldB row a) n) n < rg then nI (vF S (prW W n) row a n % prO W (orS (tldB row a) n) n) else -4) := by unfold lfI; rw [hk]; rfl
    unfold rbX
    rw [h1, h2, el]
    by_cases q : vF S (prW W n) row a n % prO W (orS (tldB row a) n) n < rg
    · rw [if_pos q, if_neg (nI_n4 (by omega)), if_pos q]
      exact ⟨rfl, rfl⟩
    · rw [if_neg q, if_pos rfl, if_neg q]
      exact ⟨rfl, rfl⟩
end RUB
