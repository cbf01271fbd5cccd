/-! ===== drawers: more things than places ===== -/
theorem fb_holes : ∀ (m n : Nat) (f : Nat → Nat), (∀ i, i < n → f i < m) → (∀ i j, i < j → j < n → f i ≠ f j) → n ≤ m := by
  intro m
  induction m with
  | zero =>
    intro n f h1 _
    rcases Nat.eq_zero_or_pos n with h | h
    · omega
    · exact absurd (h1 0 h) (Nat.not_lt_zero _)
  | succ m ih =>
    intro n f h1 h2
    by_cases hx : ∃ i, i < n ∧ f i = m
    · obtain ⟨a, ha, hfa⟩ := hx
      have hg := ih (n - 1) (fun i => if i < a then f i else f (i + 1)) (by
        intro i hi
        by_cases q : i < a
        · simp only [if_pos q]
          have b1 := h1 i (by omega)
          have b2 := h2 i a q ha
          omega
        · simp only [if_neg q]
          have b1 := h1 (i + 1) (by omega)
          have b2 := h2 a (i + 1) (by omega) (by omega)
          omega) (by
        intro i j hij hj
        by_cases q : i < a
        · by_cases r : j < a
          · simp only [if_pos q, if_pos r]
            exact h2 i j hij (by omega)
          · simp only [if_pos q, if_neg r]
            exact h2 i (j + 1) (by omega) (by omega)
        · have r : ¬ j < a := by omega
          simp only [if_neg q, if_neg r]
          exact h2 (i + 1) (j + 1) (by omega) (by omega))
      omega
    · have hg := ih n f (fun i hi => by
        have b1 := h1 i hi
        have b2 : f i ≠ m := fun e => hx ⟨i, hi, e⟩
        omega) h2
      omega
/-- two of them in one place -/
theorem fb_twice {m n : Nat} {f : Nat → Nat} (h : ∀ i, i < n → f i < m) (hm : m < n) : ∃ i j, i < j ∧ j < n ∧ f i = f j := by
  refine Classical.byContradiction fun hx => ?_
  have := fb_holes m n f h (fun i j hij hj e => hx ⟨i, j, hij, hj, e⟩)
  omega
/-- as many as places, none twice: each place is taken -/
theorem fb_onto {n : Nat} {f : Nat → Nat} (h : ∀ i, i < n → f i < n) (h2 : ∀ i j, i < j → j < n → f i ≠ f j) {y : Nat} (hy : y < n) : ∃ i, i < n ∧ f i = y := by
  refine Classical.byContradiction fun hx => ?_
  have hne : ∀ i, i < n → f i ≠ y := fun i hi e => hx ⟨i, hi, e⟩
  have := fb_holes (n - 1) n (fun i => if f i < y then f i else f i - 1) (by
    intro i hi
    have b1 := h i hi
    have b2 := hne i hi
    by_cases q : f i < y
    · simp only [if_pos q]; omega
    · simp only [if_neg q]; omega) (by
    intro i j hij hj
    have b1 := hne i (by omega)
    have b2 := hne j hj
    have b3 := h2 i j hij hj
    by_cases q : f i < y
    · by_cases r : f j < y
      · simp only [if_pos q, if_pos r]; exact b3
      · simp only [if_pos q, if_neg r]; omega
    · by_cases r : f j < y
      · simp only [if_neg q, if_pos r]; omega
      · simp only [if_neg q, if_neg r]; omega)
  omega
/-! numbers told by their rests: there is one, and only one -/
def isVal (n : Nat) (W r : Nat → Nat) (v : Nat) : Prop := v < prW W n ∧ ∀ j, j < n → v % W j = r j
noncomputable def Val (n : Nat) (W r : Nat → Nat) : Nat := Classical.epsilon (isVal n W r)
theorem wOk_le {n m : Nat} {K W : Nat → Nat} (ok : wOk n K W) (h : m ≤ n) : wOk m K W := ⟨Nat.le_trans h ok.1, fun j hj => ok.2.1 j (by omega), fun j hj => ok.2.2.1 j (by omega), fun i j hij hj => ok.2.2.2 i j hij (by omega)⟩
theorem prW_cop {n : Nat} {K W : Nat → Nat} (ok : wOk n K W) {k : Nat} (hk : k < n) : ∀ j, j ≤ k → Nat.Coprime (prW W j) (W k)
  | 0, _ => Nat.coprime_one_left _
  | j + 1, h => Nat.Coprime.mul_left (prW_cop ok hk j (by omega)) (ok.2.2.2 j k (by omega) hk)
theorem prW_dvd (W : Nat → Nat) {j : Nat} : ∀ k, j < k → W j ∣ prW W k
  | 0, h => absurd h (Nat.not_lt_zero _)
  | k + 1, h => by
    rw [prW]
    rcases Nat.lt_or_ge j k with q | q
    · exact Nat.dvd_trans (prW_dvd W k q) (Nat.dvd_mul_right _ _)
    · have e : j = k := by omega
      rw [e]; exact Nat.dvd_mul_left _ _
theorem prW_all {n : Nat} {K W : Nat → Nat} (ok : wOk n K W) {x : Nat} : ∀ k, k ≤ n → (∀ j, j < k → W j ∣ x) → prW W k ∣ x
  | 0, _, _ => Nat.one_dvd _
  | k + 1, h, hd => Nat.Coprime.mul_dvd_of_dvd_of_dvd (prW_cop ok (by omega) k (Nat.le_refl k)) (prW_all ok k (by omega) (fun j hj => hd j (by omega))) (hd k (by omega))
theorem sub_dvd {a b w : Nat} (h : a ≤ b) (e : a % w = b % w) : w ∣ b - a := by
  have h1 := Nat.div_add_mod a w
  have h2 := Nat.div_add_mod b w
  refine ⟨b / w - a / w, ?_⟩
  rw [Nat.mul_sub]
  omega
theorem isVal_one' {n : Nat} {K W : Nat → Nat} (ok : wOk n K W) {r : Nat → Nat} {a b : Nat} (ha : isVal n W r a) (hb : isVal n W r b) (hle : a ≤ b) : a = b := by
  have hd : prW W n ∣ b - a := prW_all ok n (Nat.le_refl n) (fun j hj => sub_dvd hle ((ha.2 j hj).trans (hb.2 j hj).symm))
  have hlt : b - a < prW W n := Nat.lt_of_le_of_lt (Nat.sub_le _ _) hb.1
  have := Nat.eq_zero_of_dvd_of_lt hd hlt
  omega
theorem isVal_one {n : Nat} {K W : Nat → Nat} (ok : wOk n K W) {r : Nat → Nat} {a b : Nat} (ha : isVal n W r a) (hb : isVal n W r b) : a = b := by
  rcases Nat.le_total a b with h | h
  · exact isVal_one' ok ha hb h
  · exact (isVal_one' ok hb ha h).symm
theorem next_i {s w : Nat} (hc : Nat.Coprime s w) (hw : 0 < w) (v : Nat) {r : Nat} (hr : r < w) : ∃ i, i < w ∧ (v + i * s) % w = r := by
  refine fb_onto (f := fun i => (v + i * s) % w) (fun i _ => Nat.mod_lt _ hw) ?_ hr
  intro i j hij hj e
  have hle : v + i * s ≤ v + j * s := Nat.add_le_add_left (Nat.mul_le_mul_right s (Nat.le_of_lt hij)) v
  have hd : w ∣ v + j * s - (v + i * s) := sub_dvd hle e
  rw [Nat.add_sub_add_left, ← Nat.sub_mul] at hd
  have hd2 : w ∣ j - i := Nat.Coprime.dvd_of_dvd_mul_right hc.symm hd
  have := Nat.eq_zero_of_dvd_of_lt hd2 (by omega)
  omega
theorem isVal_next {W r : Nat → Nat} {k v i : Nat} (hv : isVal k W r v) (hi : i < W k) (he : (v + i * prW W k) % W k = r k) : isVal (k + 1) W r (v + i * prW W k) := by
  refine ⟨?_, fun j hj => ?_⟩
  · have h1 : i * prW W k + prW W k ≤ W k * prW W k := by rw [← Nat.succ_mul]; exact Nat.mul_le_mul_right _ hi
    rw [prW, Nat.mul_comm (prW W k)]
    have := hv.1
    omega
  · rcases Nat.lt_or_ge j k with q | q
    · obtain ⟨c, hc⟩ := prW_dvd W k q
      rw [hc, Nat.mul_comm i, Nat.mul_assoc, Nat.add_mul_mod_self_left]
      exact hv.2 j q
    · have e : j = k := by omega
      rw [e]; exact he
theorem isVal_ex {n : Nat} {K W : Nat → Nat} (ok : wOk n K W) {r : Nat → Nat} (hr : ∀ j, j < n → r j < W j) : ∀ k, k ≤ n → ∃ v, isVal k W r v
  | 0, _ => ⟨0, Nat.zero_lt_one, fun j hj => absurd hj (Nat.not_lt_zero _)⟩
  | k + 1, h => by
    obtain ⟨v, hv⟩ := isVal_ex ok hr k (by omega)
    have hw := ok.2.2.1 k (by omega)
    obtain ⟨i, hi, he⟩ := next_i (prW_cop ok (by omega) k (Nat.le_refl k)) (show 0 < W k by omega) v (hr k (by omega))
    exact ⟨_, isVal_next hv hi he⟩
theorem Val_is {n : Nat} {K W : Nat → Nat} (ok : wOk n K W) {r : Nat → Nat} (hr : ∀ j, j < n → r j < W j) {k : Nat} (hk : k ≤ n) : isVal k W r (Val k W r) := Classical.epsilon_spec (isVal_ex ok hr k hk)
theorem Val_eq {n : Nat} {K W : Nat → Nat} (ok : wOk n K W) {r : Nat → Nat} {v : Nat} (h : isVal n W r v) : v = Val n W r := isVal_one ok h (Classical.epsilon_spec ⟨v, h⟩)
theorem Val_0 (W r : Nat → Nat) : Val 0 W r = 0 := by
  have h : isVal 0 W r (Val 0 W r) := Classical.epsilon_spec ⟨0, Nat.zero_lt_one, fun j hj => absurd hj (Nat.not_lt_zero _)⟩
  exact Nat.lt_one_iff.mp h.1
theorem Val_next {n : Nat} {K W : Nat → Nat} (ok : wOk n K W) {r : Nat → Nat} (hr : ∀ j, j < n → r j < W j) {k : Nat} (hk : k < n) : ∃ i, i < W k ∧ (Val k W r + i * prW W k) % W k = r k := by
  have hw := ok.2.2.1 k hk
  exact next_i (prW_cop ok hk k (Nat.le_refl k)) (by omega) _ (hr k hk)
theorem Val_succ {n : Nat} {K W : Nat → Nat} (ok : wOk n K W) {r : Nat → Nat} (hr : ∀ j, j < n → r j < W j) {k : Nat} (hk : k < n) {i : Nat} (hi : i < W k) (he : (Val k W r + i * prW W k) % W k = r k) : Val k W r + i * prW W k = Val (k + 1) W r :=
  Val_eq (wOk_le ok hk) (isVal_next (Val_is ok hr (Nat.le_of_lt hk)) hi he)
theorem Val_lt {n : Nat} {K W : Nat → Nat} (ok : wOk n K W) {r : Nat → Nat} (hr : ∀ j, j < n → r j < W j) {k : Nat} (hk : k ≤ n) : Val k W r < prW W k := (Val_is ok hr hk).1
theorem Val_step_b {n : Nat} {K W : Nat → Nat} (ok : wOk n K W) {r : Nat → Nat} (hr : ∀ j, j < n → r j < W j) {k i : Nat} (hk : k < n) (hi : i < W k) : Val k W r + i * prW W k ≤ 47045881 := by
  have h1 : i * prW W k + prW W k ≤ W k * prW W k := by rw [← Nat.succ_mul]; exact Nat.mul_le_mul_right _ hi
  have h2 := Val_lt ok hr (Nat.le_of_lt hk)
  have h3 := (prW_b ok (j := k + 1) hk).2
  rw [prW, Nat.mul_comm] at h3
  omega
/-- a share: leaves 1 at its own wheel, nothing at the others -/
def shOk (n : Nat) (W S : Nat → Nat) (sp : Nat) : Prop := ∀ j, j < n → S j < sp ∧ S j % W j = 1 ∧ ∀ i, i < n → i ≠ j → S j % W i = 0
theorem vS_mod {n : Nat} {K W : Nat → Nat} (ok : wOk n K W) {S r : Nat → Nat} (hS : shOk n W S (prW W n)) (hr : ∀ j, j < n → r j < W j) {i : Nat} (hi : i < n) : ∀ k, k ≤ n → vS S r (prW W n) k % W i = if i < k then r i else 0
  | 0, _ => by rw [vS, if_neg (Nat.not_lt_zero _), Nat.zero_mod]
  | k + 1, h => by
    have ih := vS_mod ok hS hr hi k (by omega)
    rw [vS, Nat.mod_mod_of_dvd _ (prW_dvd W n hi), Nat.add_mod, ih]
    rcases Nat.lt_or_ge i k with q | q
    · rw [if_pos q, if_pos (by omega), Nat.mul_mod, (hS k (by omega)).2.2 i hi (by omega), Nat.mul_zero, Nat.zero_mod, Nat.add_zero, Nat.mod_eq_of_lt (hr i hi)]
    · rw [if_neg (by omega), Nat.zero_add]
      rcases Nat.lt_or_ge k i with q2 | q2
      · rw [if_neg (by omega), Nat.mul_mod, (hS k (by omega)).2.2 i hi (by omega), Nat.mul_zero, Nat.zero_mod, Nat.zero_mod]
      · have e : i = k := by omega
        subst e
        rw [if_pos (by omega), Nat.mul_mod, (hS i hi).2.1, Nat.mul_one, Nat.mod_mod, Nat.mod_mod, Nat.mod_eq_of_lt (hr i hi)]
theorem vS_val {n : Nat} {K W : Nat → Nat} (ok : wOk n K W) {S r : Nat → Nat} (hS : shOk n W S (prW W n)) (hr : ∀ j, j < n → r j < W j) : vS S r (prW W n) n = Val n W r :=
  Val_eq ok ⟨vS_lt (prW_b ok (Nat.le_refl n)).1 n, fun j hj => by rw [vS_mod ok hS hr hj n (Nat.le_refl n), if_pos hj]⟩
