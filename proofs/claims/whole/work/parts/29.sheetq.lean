/-! sheets of the reference -/
def laF (Th : Nat → Bool) (Ln : Nat → Nat) : Nat → Int32 := fun s => if Th s then nI (Ln s) else -1
theorem laF_t {Th : Nat → Bool} {Ln : Nat → Nat} {s : Nat} (h : 0 ≤ laF Th Ln s) : Th s = true := by
  cases q : Th s
  · unfold laF at h; rw [q] at h; exact absurd h (show ¬ (0 : Int32) ≤ -1 by decide)
  · rfl
theorem laF_f {Th : Nat → Bool} {Ln : Nat → Nat} {s : Nat} (hl : Ln s ≤ 3) (h : ¬ 0 ≤ laF Th Ln s) : Th s = false := by
  cases q : Th s
  · rfl
  · unfold laF at h; rw [q] at h; exact absurd (nI_pos' (by omega)) h
theorem laF_e {Th : Nat → Bool} {Ln : Nat → Nat} {s : Nat} (h : Th s = true) : laF Th Ln s = nI (Ln s) := by unfold laF; rw [h]; rfl
theorem cmp_le {x y : Int64} (h : lg_cmp x y ≤ 0) : ¬ y < x := cmp_ngt (fun q => by rw [Int32.lt_iff_toInt_lt] at q; rw [Int32.le_iff_toInt_le] at h; omega)
theorem cmp_nle {x y : Int64} (h : ¬ lg_cmp x y ≤ 0) : y < x := cmp_gt (by rw [Int32.lt_iff_toInt_lt]; rw [Int32.le_iff_toInt_le] at h; omega)
theorem add64 (i t : Int32) : (i.toInt64 + t.toInt64).toInt = i.toInt + t.toInt := by
  rw [Int64.toInt_add, Int32.toInt_toInt64, Int32.toInt_toInt64]
  have h1 := Int32.toInt_lt i
  have h2 := Int32.toInt_lt t
  have h3 := Int32.le_toInt i
  have h4 := Int32.le_toInt t
  exact Int.bmod_eq_of_le (by omega) (by omega)
theorem hasS_L {len : Nat} {i t : Int32} (hl : len ≤ 24) (h1 : ¬ i < 0) (h2 : ¬ t < 0) (h3 : lg_cmp (i.toInt64 + t.toInt64) (nI len).toInt64 ≤ 0) : hasS len i t = true := by
  have z := nlt64 (cmp_le h3)
  rw [add64, i2l_toInt (by omega)] at z
  exact decide_eq_true ⟨nlt0_toInt h1, nlt0_toInt h2, z⟩
theorem hasS_LF {len : Nat} {i t : Int32} (hl : len ≤ 24) (h : i < 0 ∨ t < 0 ∨ ¬ lg_cmp (i.toInt64 + t.toInt64) (nI len).toInt64 ≤ 0) : hasS len i t = false := by
  refine decide_eq_false (fun q => ?_)
  rcases h with h | h | h
  · have := lt0_toInt h; omega
  · have := lt0_toInt h; omega
  · have z := lt64 (cmp_nle h)
    rw [add64, i2l_toInt (by omega)] at z
    omega
theorem refI_neg {th : Bool} {ln len : Nat} {wl i t : Int32} (h : ¬ refI th ln len wl i t = nI 0) : ¬ 0 ≤ refI th ln len wl i t := by
  unfold refI at h ⊢
  by_cases q : th = false
  · rw [if_pos q]; decide
  · rw [if_neg q] at h ⊢
    by_cases q2 : nI ln = wl
    · rw [if_pos q2] at h ⊢
      cases q3 : hasS len i t
      · decide
      · rw [q3] at h; exact absurd rfl h
    · rw [if_neg q2]; decide
theorem refI_lt {th : Bool} {ln len : Nat} {wl i t : Int32} (h : ¬ refI th ln len wl i t = nI 0) : refI th ln len wl i t < 0 := by
  have := refI_neg h
  rw [Int32.le_iff_toInt_le] at this
  rw [Int32.lt_iff_toInt_lt]
  omega
theorem refI_0 {th : Bool} {ln len : Nat} {wl i t : Int32} (h : refI th ln len wl i t = nI 0) : th = true ∧ nI ln = wl ∧ hasS len i t = true := by
  unfold refI at h
  by_cases q : th = false
  · rw [if_pos q] at h; exact absurd h (by decide)
  · rw [if_neg q] at h
    by_cases q2 : nI ln = wl
    · rw [if_pos q2] at h
      cases q3 : hasS len i t
      · rw [q3] at h; exact absurd h (by decide)
      · exact ⟨by cases th <;> simp_all, q2, rfl⟩
    · rw [if_neg q2] at h; exact absurd h (by decide)
def rwI (It : Nat → Int64) (s : Nat) : Nat → Int64 := fun j => It (24 * s + j)
def ftB (W : Nat → Nat) (row : Nat → Int64) (i v : Nat) : Nat → Bool | 0 => true | k + 1 => ftB W row i v k && (decide (row (i + k) = -1) || decide (row (i + k) = (nI (v % W k)).toInt64))
def rbC (n : Nat) (W : Nat → Nat) (row : Nat → Int64) (i : Nat) : Nat → Nat | 0 => 0 | v + 1 => rbC n W row i v + (if ftB W row i v n then 1 else 0)
def rbL (n : Nat) (W : Nat → Nat) (row : Nat → Int64) (i : Nat) : Nat → Int32 | 0 => -4 | v + 1 => if ftB W row i v n = true ∧ rbC n W row i v = 0 then nI v else rbL n W row i v
theorem rbC_le (n : Nat) (W : Nat → Nat) (row : Nat → Int64) (i : Nat) : ∀ v, rbC n W row i v ≤ v
  | 0 => Nat.le_refl 0
  | v + 1 => by have := rbC_le n W row i v; rw [rbC]; split <;> omega
/-- items that become F from place f on -/
def flI (It : Nat → Int64) (f : Nat) (F : Nat → Int64) (n : Nat) : Nat → Int64 := fun j => if f ≤ j ∧ j < f + n then F (j - f) else It j
theorem flI_0 (It : Nat → Int64) (f : Nat) (F : Nat → Int64) : It = flI It f F 0 := by funext j; unfold flI; rw [if_neg (by omega)]
theorem flI_s {It F : Nat → Int64} {f k i : Nat} {x : Int64} (hi : i = f + k) (hx : x = F k) : vp_updL (flI It f F k) i x = flI It f F (k + 1) := by
  subst hi
  subst hx
  funext j
  by_cases h : j = f + k
  · subst h; rw [pk_uLs]; unfold flI; rw [if_pos (by omega), Nat.add_sub_cancel_left]
  · rw [pk_uLn h]
    unfold flI
    by_cases h2 : f ≤ j ∧ j < f + k
    · rw [if_pos h2, if_pos (by omega)]
    · rw [if_neg h2, if_neg (by omega)]
theorem flI_in {It F : Nat → Int64} {f k j : Nat} (h : f ≤ j ∧ j < f + k) : flI It f F k j = F (j - f) := by unfold flI; rw [if_pos h]
theorem flI_out {It F : Nat → Int64} {f k j : Nat} (h : j < f ∨ f + k ≤ j) : flI It f F k j = It j := by unfold flI; rw [if_neg (by omega)]
def uB (g : Nat → Bool) (i : Nat) (x : Bool) : Nat → Bool := fun j => if j = i then x else g j
theorem laF_put (Th : Nat → Bool) (Ln : Nat → Nat) (s l : Nat) : upd (laF Th Ln) s (nI l) = laF (uB Th s true) (uN Ln s l) := by
  funext j
  by_cases h : j = s
  · subst h; rw [pk_us]; simp [laF, uB, uN]
  · rw [pk_un h]; simp [laF, uB, uN, h]
theorem laF_drop (Th : Nat → Bool) (Ln : Nat → Nat) (s : Nat) : upd (laF Th Ln) s (-1) = laF (uB Th s false) Ln := by
  funext j
  by_cases h : j = s
  · subst h; rw [pk_us]; simp [laF, uB]
  · rw [pk_un h]; simp [laF, uB, h]
def ltrB (x : Int32) : Bool := inL x.toInt64 32 126
theorem refI_h {th : Bool} {ln len : Nat} {wl i t : Int32} (h : 0 ≤ refI th ln len wl i t) : hasS len i t = true := by
  by_cases q : refI th ln len wl i t = nI 0
  · exact (refI_0 q).2.2
  · exact absurd h (refI_neg q)
theorem nlt_le {x : Int32} (h : ¬ x < 0) : 0 ≤ x := by
  rw [Int32.lt_iff_toInt_lt] at h
  rw [Int32.le_iff_toInt_le]
  omega
