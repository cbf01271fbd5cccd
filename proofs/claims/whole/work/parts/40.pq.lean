section MW
variable {rm x k : Nat} {R : Nat → Nat}
theorem mw_in (hx : x < 2 ^ 31) (hr : rm < 6) : inL (nI x).toInt64 2 19 = (decide (2 ≤ x ∧ x ≤ 19 ∧ rm < 6) && copB (rdW R) x 0) := by
  unfold inL copB
  rw [i2l_toInt hx, Bool.and_true]
  have z1 : (2 : Int64).toInt = 2 := rfl
  have z2 : (19 : Int64).toInt = 19 := rfl
  rw [z1, z2]
  congr 1
  apply propext
  constructor
  · intro h; omega
  · intro h; omega
theorem mw_1 (h : (decide (2 ≤ x ∧ x ≤ 19 ∧ rm < 6) && copB (rdW R) x k) = true) (h2 : Nat.gcd (rdW R k) x = 1) : nI 1 = bi (decide (2 ≤ x ∧ x ≤ 19 ∧ rm < 6) && copB (rdW R) x (k + 1)) := by
  rw [copB, decide_eq_true h2, Bool.and_true, h]; rfl
theorem mw_0 (h2 : ¬ Nat.gcd (rdW R k) x = 1) : nI 0 = bi (decide (2 ≤ x ∧ x ≤ 19 ∧ rm < 6) && copB (rdW R) x (k + 1)) := by
  rw [copB, decide_eq_false h2, Bool.and_false, Bool.and_false]; rfl
theorem mw_e (h : k = rm) : (decide (2 ≤ x ∧ x ≤ 19 ∧ rm < 6) && copB (rdW R) x k) = mayB rm (rdW R) x := by subst h; rfl
theorem mw_f (h : (decide (2 ≤ x ∧ x ≤ 19 ∧ rm < 6) && copB (rdW R) x k) = false) (hk : k ≤ rm) : (decide (2 ≤ x ∧ x ≤ 19 ∧ rm < 6) && copB (rdW R) x k) = mayB rm (rdW R) x := by
  rw [h]
  unfold mayB
  rw [Bool.and_eq_false_iff] at h
  rcases h with h | h
  · rw [h]; rfl
  · rw [copB_f h rm hk, Bool.and_false]
end MW
section RA
variable {T : Nat → Nat} {n k h q : Nat} {ck : Bool} {u v : MSt}
theorem mr_1 (h1 : lkI T n q = nI 44) (h2 : (ck = true ∧ k - h < 2) ∨ (ck = false ∧ h < 4)) : nI 1 = bi (mrB T n ck k h q) := by
  have : mrB T n ck k h q = true := decide_eq_true ⟨h1, by
    rcases h2 with ⟨e, z⟩ | ⟨e, z⟩
    · subst e; rw [if_pos rfl]; exact z
    · subst e; rw [if_neg (by decide)]; exact z⟩
  rw [this]; rfl
theorem mr_0 (h1 : ¬ lkI T n q = nI 44 ∨ (ck = true ∧ 2 ≤ k - h) ∨ (ck = false ∧ 4 ≤ h)) : nI 0 = bi (mrB T n ck k h q) := by
  have : mrB T n ck k h q = false := decide_eq_false (fun z => by
    rcases h1 with h1 | ⟨e, h1⟩ | ⟨e, h1⟩
    · exact h1 z.1
    · subst e; have := z.2; rw [if_pos rfl] at this; omega
    · subst e; have := z.2; rw [if_neg (by decide)] at this; omega)
  rw [this]; rfl
theorem tn_1 (h1 : lkI T n q = nI 59) (h2 : ck = false) : nI 1 = bi (tnB T n ck q) := by
  rw [show tnB T n ck q = true from decide_eq_true ⟨h1, h2⟩]; rfl
theorem tn_0 (h1 : ¬ lkI T n q = nI 59 ∨ ck = true) : nI 0 = bi (tnB T n ck q) := by
  rw [show tnB T n ck q = false from decide_eq_false (fun z => by
    rcases h1 with h1 | h1
    · exact h1 z.1
    · rw [h1] at z; exact absurd z.2 (by decide))]; rfl
theorem aft_le (ha : qOk n v ∧ v.2.2.2.1 = u.2.2.2.1 + 1 ∧ v.2.2.2.2.1 = u.2.2.2.2.1 + (if ck then 0 else 1)) (hc : qCk ck u) : v.2.2.2.2.1 ≤ v.2.2.2.1 := by
  have h1 := hc.1
  rw [ha.2.1, ha.2.2]
  split <;> omega
theorem qCk_5 (h : qCk ck v) : v.2.2.2.1 ≤ 5 := by
  have := h.2
  cases ck
  · rw [if_neg (by decide)] at this; omega
  · rw [if_pos rfl] at this; omega
end RA
theorem ot_a {a b : Bool} (h : a = true) : nI 1 = bi (a || b) := by rw [h]; rfl
theorem ot_b {a b : Bool} (h : b = true) : nI 1 = bi (a || b) := by rw [h, Bool.or_true]; rfl
theorem ot_0 {a b : Bool} (h : a = false) (h2 : b = false) : nI 0 = bi (a || b) := by rw [h, h2]; rfl
