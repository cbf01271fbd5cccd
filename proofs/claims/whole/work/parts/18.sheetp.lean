/-! sheets as numbers -/
def hasS (len : Nat) (i n : Int32) : Bool := decide (0 ≤ i.toInt ∧ 0 ≤ n.toInt ∧ i.toInt + n.toInt ≤ (len : Int))
def refI (th : Bool) (ln len : Nat) (wl i n : Int32) : Int32 := if th = false then -11 else if nI ln = wl then (if hasS len i n then nI 0 else -13) else -12
def zL (j : Nat) (f : Nat → Int64) : Nat → Int64 := fun i => if i < j then 0 else f i
theorem zL_0 (f : Nat → Int64) : f = zL 0 f := by funext i; simp [zL]
theorem zL_s (j : Nat) (f : Nat → Int64) : vp_updL (zL j f) j 0 = zL (j + 1) f := by
  funext i
  by_cases h : i = j
  · subst h; rw [pk_uLs]; unfold zL; rw [if_pos (by omega)]
  · rw [pk_uLn h]
    unfold zL
    by_cases h2 : i < j
    · rw [if_pos h2, if_pos (by omega)]
    · rw [if_neg h2, if_neg (by omega)]
theorem sub_toInt {len : Nat} {n : Int32} (h0 : 0 ≤ n.toInt) (h1 : n.toInt ≤ (len : Int)) (hl : len < 2 ^ 30) : (nI len - n).toInt = (len : Int) - n.toInt := by
  obtain ⟨j, hj, e⟩ := nI_of (x := n) (by rw [Int32.lt_iff_toInt_lt]; show ¬ n.toInt < 0; omega)
  subst e
  rw [nI_toInt hj] at h1 ⊢
  rw [pk_sub_toInt (by omega) (by omega)]
theorem lt0_toInt {x : Int32} (h : x < 0) : x.toInt < 0 := Int32.lt_iff_toInt_lt.mp h
theorem nlt0_toInt {x : Int32} (h : ¬ x < 0) : 0 ≤ x.toInt := by
  rw [Int32.lt_iff_toInt_lt] at h
  have : ¬ x.toInt < 0 := h
  omega
theorem hasS_f {len : Nat} {i n : Int32} (hl : len ≤ 24) (h : i < 0 ∨ n < 0 ∨ nI len < n ∨ (¬ n < 0 ∧ ¬ nI len < n ∧ nI len - n < i)) : hasS len i n = false := by
  refine decide_eq_false (fun q => ?_)
  rcases h with h | h | h | ⟨h1, h2, h3⟩
  · have := lt0_toInt h; omega
  · have := lt0_toInt h; omega
  · rw [Int32.lt_iff_toInt_lt, nI_toInt (by omega)] at h; omega
  · have z1 := nlt0_toInt h1
    rw [Int32.lt_iff_toInt_lt, nI_toInt (by omega)] at h2
    rw [Int32.lt_iff_toInt_lt, sub_toInt z1 (by omega) (by omega)] at h3
    omega
theorem hasS_t {len : Nat} {i n : Int32} (hl : len ≤ 24) (h0 : ¬ i < 0) (h1 : ¬ n < 0) (h2 : ¬ nI len < n) (h3 : ¬ nI len - n < i) : hasS len i n = true := by
  have z0 := nlt0_toInt h0
  have z1 := nlt0_toInt h1
  rw [Int32.lt_iff_toInt_lt, nI_toInt (by omega)] at h2
  rw [Int32.lt_iff_toInt_lt, sub_toInt z1 (by omega) (by omega)] at h3
  exact decide_eq_true ⟨z0, z1, by omega⟩
/-- what is asked for is there: places as numbers -/
theorem hasS_of {len : Nat} {i n : Int32} (hl : len ≤ 24) (h : hasS len i n = true) : ∃ a b : Nat, i = nI a ∧ n = nI b ∧ a + b ≤ len := by
  have q : 0 ≤ i.toInt ∧ 0 ≤ n.toInt ∧ i.toInt + n.toInt ≤ (len : Int) := of_decide_eq_true h
  obtain ⟨a, ha, e1⟩ := nI_of (x := i) (by rw [Int32.lt_iff_toInt_lt]; show ¬ i.toInt < 0; omega)
  obtain ⟨b, hb, e2⟩ := nI_of (x := n) (by rw [Int32.lt_iff_toInt_lt]; show ¬ n.toInt < 0; omega)
  subst e1
  subst e2
  rw [nI_toInt ha, nI_toInt hb] at q
  exact ⟨a, b, rfl, rfl, by omega⟩
theorem hasS_nI {len a b : Nat} (ha : a < 2 ^ 31) (hb : b < 2 ^ 31) : hasS len (nI a) (nI b) = decide (a + b ≤ len) := by
  unfold hasS
  rw [nI_toInt ha, nI_toInt hb]
  congr 1
  apply propext
  constructor <;> intro h <;> omega
