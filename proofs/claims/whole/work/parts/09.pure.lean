/-! the numbers that both sides are tied to: kinds of wheels, sets as numbers, the greatest common part -/
def plainA (w a b : Nat) : Nat := (a + b) % w
def losA (w a b : Nat) : Nat := if a + b < w then a + b else a + b - w - 1
def addK (kd w a b : Nat) : Nat := if kd = 1 then losA w a b else if kd = 2 then (if b = 1 then a else plainA w a b) else if kd = 3 then (if a = b then 0 else losA w a b) else if kd = 4 then (if b = 1 ∨ w < 2 * b then a else plainA w a b) else plainA w a b
theorem plainA_lt {w : Nat} (a b : Nat) (hw : 0 < w) : plainA w a b < w := Nat.mod_lt _ hw
theorem losA_lt {w a b : Nat} (ha : a < w) (hb : b < w) : losA w a b < w := by unfold losA; split <;> omega
theorem addK_lt {w a b : Nat} (kd : Nat) (ha : a < w) (hb : b < w) : addK kd w a b < w := by
  have h0 : 0 < w := by omega
  have h1 := losA_lt ha hb
  have h2 := plainA_lt a b h0
  unfold addK
  repeat' split
  all_goals omega
theorem mx_sub1 {x : Nat} (hx : x < 2 ^ 31) : (if nI x - nI 1 < nI 0 then nI 0 else nI x - nI 1) = nI (x - 1) := by
  cases x with
  | zero => decide
  | succ x =>
    rw [pk_sub (show 1 ≤ x + 1 by omega), if_neg (nI_nlt (Nat.zero_le _) (by omega))]
theorem losing_eq {w a b : Nat} (ha : a < w) (hb : b < w) : (if w ≤ a + b ∧ 0 < plainA w a b then plainA w a b - 1 else plainA w a b) = losA w a b := by
  unfold losA plainA
  by_cases h : a + b < w
  · rw [if_neg (by omega), if_pos h, Nat.mod_eq_of_lt h]
  · have e : (a + b) % w = a + b - w := by
      rw [Nat.mod_eq_sub_mod (by omega), Nat.mod_eq_of_lt (by omega)]
    rw [e, if_neg h]
    split <;> omega
def hasB (x k : Nat) : Bool := decide (x / 2 ^ k % 2 = 1)
theorem bit_eq {x k : Nat} (hx : x < 2 ^ 31) (hk : k < 31) : (nI x >>> (nI k &&& 31)) &&& nI 1 = nI (x / 2 ^ k % 2) := by
  have hs : ((nI k &&& 31).toBitVec.smod 32).toNat = k := by
    have hall : ∀ k : Fin 31, ((nI k.val &&& 31).toBitVec.smod 32).toNat = k.val := by decide +kernel
    exact hall ⟨k, hk⟩
  rw [pk_shrN hx _ k hs, pk_andN (Nat.lt_of_le_of_lt (Nat.div_le_self _ _) (by omega)) 1 (by decide)]
theorem shl_eq {k : Nat} (hk : k < 31) : nI 1 <<< (nI k &&& 31) = nI (2 ^ k) := by
  have hall : ∀ k : Fin 31, nI 1 <<< (nI k.val &&& 31) = nI (2 ^ k.val) := by decide +kernel
  exact hall ⟨k, hk⟩
theorem or_eq (a b : Nat) : nI a ||| nI b = nI (a ||| b) := by
  apply Int32.toBitVec_inj.mp
  show (BitVec.ofNat 32 a ||| BitVec.ofNat 32 b) = BitVec.ofNat 32 (a ||| b)
  apply BitVec.eq_of_toNat_eq
  simp [BitVec.toNat_or, BitVec.toNat_ofNat, Nat.or_mod_two_pow]
def eucI (i x y : Nat) : Prop := i = 0 ∨ (y ≤ x ∧ x * y * 2 ^ (i - 1) < 2 ^ 62)
theorem eucI_step {i x y : Nat} (h : eucI i x y) (hx : x < 2 ^ 31) (hy : y < 2 ^ 31) (h0 : 0 < y) : eucI (i + 1) y (x % y) := by
  have hm := Nat.mod_lt x h0
  refine Or.inr ⟨Nat.le_of_lt hm, ?_⟩
  rw [Nat.add_sub_cancel]
  rcases h with rfl | ⟨h1, h2⟩
  · rw [Nat.pow_zero, Nat.mul_one]
    exact Nat.lt_of_lt_of_le (Nat.mul_lt_mul_of_lt_of_le hy (Nat.le_of_lt (Nat.lt_trans hm hy)) (by decide)) (by decide)
  · cases i with
    | zero =>
      rw [Nat.pow_zero, Nat.mul_one]
      exact Nat.lt_of_lt_of_le (Nat.mul_lt_mul_of_lt_of_le hy (Nat.le_of_lt (Nat.lt_trans hm hy)) (by decide)) (by decide)
    | succ i =>
      rw [Nat.add_sub_cancel] at h2
      have hd : x % y * 2 ≤ x := by
        have e := Nat.div_add_mod x y
        have hq : 1 ≤ x / y := Nat.div_pos h1 h0
        have : y * 1 ≤ y * (x / y) := Nat.mul_le_mul_left y hq
        omega
      have e1 : y * (x % y) * 2 ^ (i + 1) = y * (x % y * 2) * 2 ^ i := by
        rw [Nat.pow_succ, Nat.mul_comm (2 ^ i) 2, ← Nat.mul_assoc, Nat.mul_assoc y]
      rw [e1]
      refine Nat.lt_of_le_of_lt ?_ h2
      refine Nat.mul_le_mul_right _ ?_
      rw [Nat.mul_comm x y]
      exact Nat.mul_le_mul_left y hd
theorem eucI_end {x y : Nat} (h : eucI 64 x y) : y = 0 := by
  rcases h with h | ⟨h1, h2⟩
  · omega
  · rcases Nat.eq_zero_or_pos y with h0 | h0
    · exact h0
    · exfalso
      have h3 : 1 ≤ x * y := Nat.mul_pos (by omega) h0
      have h4 : 1 * 2 ^ (64 - 1) ≤ x * y * 2 ^ (64 - 1) := Nat.mul_le_mul_right _ h3
      have h5 : (2 : Nat) ^ 62 < 1 * 2 ^ (64 - 1) := by decide
      omega
theorem gcd_step (x y : Nat) : Nat.gcd y (x % y) = Nat.gcd x y := by
  rw [Nat.gcd_comm x y, Nat.gcd_rec y x, Nat.gcd_comm]
theorem inb_cmp {x : Int32} {n : Nat} (hn : n < 2 ^ 31) (h1 : ¬ x < 0) (h2 : ¬ nI n ≤ x) : inb x n = true := by
  unfold inb
  rw [Int32.lt_iff_toInt_lt] at h1
  rw [Int32.le_iff_toInt_le, nI_toInt hn] at h2
  have h3 : ¬ x.toInt < 0 := h1
  exact decide_eq_true ⟨by omega, by omega⟩
theorem inb_neg {x : Int32} {n : Nat} (h1 : x < 0) : inb x n = false := by
  unfold inb
  rw [Int32.lt_iff_toInt_lt] at h1
  have h3 : x.toInt < 0 := h1
  exact decide_eq_false (by omega)
theorem inb_big {x : Int32} {n : Nat} (hn : n < 2 ^ 31) (h2 : nI n ≤ x) : inb x n = false := by
  unfold inb
  rw [Int32.le_iff_toInt_le, nI_toInt hn] at h2
  exact decide_eq_false (by omega)
def inL (v lo hi : Int64) : Bool := decide (lo.toInt ≤ v.toInt ∧ v.toInt ≤ hi.toInt)
theorem cmp_lt {x y : Int64} (h : lg_cmp x y < 0) : x < y := by
  unfold lg_cmp at h
  by_cases h1 : y < x
  · rw [if_pos h1] at h; exact absurd h (by decide)
  · rw [if_neg h1] at h
    by_cases h2 : x = y
    · rw [if_pos h2] at h; exact absurd h (by decide)
    · rw [Int64.lt_iff_toInt_lt] at h1 ⊢
      have : x.toInt ≠ y.toInt := fun q => h2 (Int64.toInt_inj.mp q)
      omega
theorem cmp_nlt {x y : Int64} (h : ¬ lg_cmp x y < 0) : ¬ x < y := by
  intro q
  apply h
  unfold lg_cmp
  rw [Int64.lt_iff_toInt_lt] at q
  rw [if_neg (show ¬ y < x by rw [Int64.lt_iff_toInt_lt]; omega), if_neg (fun z => by rw [z] at q; omega)]
  decide
theorem cmp_gt {x y : Int64} (h : 0 < lg_cmp x y) : y < x := by
  unfold lg_cmp at h
  by_cases h1 : y < x
  · exact h1
  · rw [if_neg h1] at h
    by_cases h2 : x = y
    · rw [if_pos h2] at h; exact absurd h (by decide)
    · rw [if_neg h2] at h; exact absurd h (by decide)
theorem cmp_ngt {x y : Int64} (h : ¬ 0 < lg_cmp x y) : ¬ y < x := by
  intro q
  apply h
  unfold lg_cmp
  rw [if_pos q]
  decide
theorem inL_f1 {v lo hi : Int64} (h : v < lo) : inL v lo hi = false := by
  rw [Int64.lt_iff_toInt_lt] at h
  exact decide_eq_false (by omega)
theorem inL_f2 {v lo hi : Int64} (h : hi < v) : inL v lo hi = false := by
  rw [Int64.lt_iff_toInt_lt] at h
  exact decide_eq_false (by omega)
theorem inL_t {v lo hi : Int64} (h1 : ¬ v < lo) (h2 : ¬ hi < v) : inL v lo hi = true := by
  rw [Int64.lt_iff_toInt_lt] at h1 h2
  exact decide_eq_true (by omega)
/-- in(x, 0, n - 1) of ints -/
theorem inL_inb {x : Int32} {n : Nat} (hn : n < 2 ^ 30) : inL x.toInt64 0 (nI n - nI 1).toInt64 = inb x n := by
  unfold inL inb
  rw [Int32.toInt_toInt64, Int32.toInt_toInt64, pk_sub_toInt (by omega) (by omega)]
  have e : (0 : Int64).toInt = 0 := rfl
  rw [e]
  congr 1
  apply propext
  constructor <;> intro h <;> omega
theorem inL_lit {x : Int32} {n : Nat} {hi : Int64} (h : hi.toInt + 1 = (n : Int)) : inL x.toInt64 0 hi = inb x n := by
  unfold inL inb
  rw [Int32.toInt_toInt64]
  have e : (0 : Int64).toInt = 0 := rfl
  rw [e]
  congr 1
  apply propext
  constructor <;> intro h <;> omega
def kindC (c : Int32) : Int32 := if c = nI 112 then nI 0 else if c = nI 108 then nI 1 else if c = nI 115 then nI 2 else if c = nI 119 then nI 3 else if c = nI 122 then nI 4 else -1
def cutL (k : Int32) (v : Int64) : Int64 := if k = nI 0 then v.toInt32.toInt8.toInt32.toInt64 else if k = nI 1 then v.toInt32.toInt16.toInt32.toInt64 else if k = nI 2 then v.toInt32.toInt64 else v
def digB (c : Int32) : Bool := decide (48 ≤ c.toInt ∧ c.toInt ≤ 57)
theorem dig_t {c : Int32} (h1 : ¬ c < nI 48) (h2 : ¬ nI 57 < c) : digB c = true := by
  rw [Int32.lt_iff_toInt_lt, nI_toInt (by decide)] at h1 h2
  exact decide_eq_true (by omega)
theorem dig_f1 {c : Int32} (h1 : c < nI 48) : digB c = false := by
  rw [Int32.lt_iff_toInt_lt, nI_toInt (by decide)] at h1
  exact decide_eq_false (by omega)
theorem dig_f2 {c : Int32} (h1 : nI 57 < c) : digB c = false := by
  rw [Int32.lt_iff_toInt_lt, nI_toInt (by decide)] at h1
  exact decide_eq_false (by omega)
