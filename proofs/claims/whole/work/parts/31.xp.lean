/-! the class's own numbers -/
def lcN (f : Nat → Nat) : Nat → Nat | 0 => 1 | k + 1 => lcN f k / Nat.gcd (lcN f k) (f k) * f k
def okL (f : Nat → Nat) : Nat → Bool | 0 => true | k + 1 => okL f k && decide (f k ≠ 0 ∧ lcN f (k + 1) ≤ 2000)
theorem okL_f {f : Nat → Nat} {k : Nat} (h : okL f k = false) : ∀ n, k ≤ n → okL f n = false
  | 0, hn => by rw [← Nat.le_zero.mp hn]; exact h
  | n + 1, hn => by
    rcases Nat.lt_or_ge k (n + 1) with q | q
    · rw [okL, okL_f h n (by omega)]; rfl
    · rw [← Nat.le_antisymm hn q]; exact h
def agC (f : Nat → Nat) (n : Nat) : Int32 := if okL f n then nI (lcN f n) else -4
def rnF (K W R : Nat → Nat) (r o : Nat) : Nat → Nat := fun k => rnd (K k) (W k) (R (r * 6 + k)) (R (o * 6 + k))
theorem rnd_le (kd w a b : Nat) : rnd kd w a b ≤ w := by
  rcases fstN_b (fun t => decide (addO kd w a b t = a)) w 1 with h | h
  · unfold rnd; omega
  · unfold rnd; omega
def rbX (n : Nat) (W S : Nat → Nat) (sp rg : Nat) (row : Nat → Int64) (i : Nat) : Nat := if lfI n W S sp rg row i = -4 then 0 else (rg - 1 - vF S sp row i n % prO W (orS (tldB row i) n) n) / prO W (orS (tldB row i) n) n + 1
theorem lfI_ne {n : Nat} {W S : Nat → Nat} {sp rg : Nat} {row : Nat → Int64} {i : Nat} (h : ¬ lfI n W S sp rg row i = -4) : okR W row i n = true ∧ vF S sp row i n % prO W (orS (tldB row i) n) n < rg ∧ lfI n W S sp rg row i = nI (vF S sp row i n % prO W (orS (tldB row i) n) n) := by
  unfold lfI at h ⊢
  cases q : okR W row i n
  · rw [q] at h; exact absurd rfl h
  · rw [q, if_pos rfl] at h
    by_cases q2 : vF S sp row i n % prO W (orS (tldB row i) n) n < rg
    · rw [if_pos rfl, if_pos q2]; exact ⟨rfl, q2, rfl⟩
    · rw [if_neg q2] at h; exact absurd rfl h
theorem dr_bad {x : Int32} (h : inL x.toInt64 1 40 = false) (h1 : ¬ x < nI 1) (h2 : x ≤ nI 40) : False := by
  rw [Int32.lt_iff_toInt_lt, nI_toInt (by decide)] at h1
  rw [Int32.le_iff_toInt_le, nI_toInt (by decide)] at h2
  have q := of_decide_eq_false h
  apply q
  rw [Int32.toInt_toInt64]
  have z1 : (1 : Int64).toInt = 1 := rfl
  have z2 : (40 : Int64).toInt = 40 := rfl
  omega
theorem sn_bad {x : Int32} (h : inL x.toInt64 1 8 = false) (h1 : ¬ x < nI 1) (h2 : x ≤ nI 8) : False := by
  rw [Int32.lt_iff_toInt_lt, nI_toInt (by decide)] at h1
  rw [Int32.le_iff_toInt_le, nI_toInt (by decide)] at h2
  have q := of_decide_eq_false h
  apply q
  rw [Int32.toInt_toInt64]
  have z1 : (1 : Int64).toInt = 1 := rfl
  have z2 : (8 : Int64).toInt = 8 := rfl
  omega
theorem lt_bad {x : Int32} (h : ltrB x = false) (h1 : ¬ x < nI 32) (h2 : x ≤ nI 126) : False := by
  rw [Int32.lt_iff_toInt_lt, nI_toInt (by decide)] at h1
  rw [Int32.le_iff_toInt_le, nI_toInt (by decide)] at h2
  have q := of_decide_eq_false h
  apply q
  rw [Int32.toInt_toInt64]
  have z1 : (32 : Int64).toInt = 32 := rfl
  have z2 : (126 : Int64).toInt = 126 := rfl
  omega
theorem inb_ge {x : Int32} {n : Nat} (hn : n < 2 ^ 30) (h1 : ¬ x < 0) (h2 : ¬ nI n < x) : inb x (n + 1) = true := by
  have z := nlt0_toInt h1
  rw [Int32.lt_iff_toInt_lt, nI_toInt (by omega)] at h2
  exact decide_eq_true (by omega)
theorem cmpI_or {a b : Nat} (ha : a < 2 ^ 31) (hb : b < 2 ^ 31) : nI 1 + cmpI (nI a) (nI b) = nI (orI a b) := by
  unfold cmpI orI
  by_cases h : a < b
  · rw [if_pos ((nI_ltI ha hb).mpr h), if_pos h]; decide
  · rw [if_neg (fun q => h ((nI_ltI ha hb).mp q)), if_neg h]
    by_cases h2 : a = b
    · rw [if_pos (by rw [h2]), if_pos h2]; decide
    · rw [if_neg (fun q => h2 ((nI_eq ha hb).mp q)), if_neg h2]; decide
