/-! the reference's memory as numbers -/
theorem inb_lt {j n : Nat} (h : j < n) (hn : n < 2 ^ 31) : inb (nI j) n = true := by rw [inb_nI (by omega), decide_eq_true h]
def kdB (B : Nat → Nat) : Nat → Nat := fun j => B (2 + j)
def wdB (B : Nat → Nat) : Nat → Nat := fun j => B (8 + j)
def rsB (B : Nat → Nat) : Nat → Nat := fun i => B (15 + i)
theorem rs_at (B : Nat → Nat) (r k : Nat) : nA B (15 + (6 * r) + k) = nI (rsB B (r * 6 + k)) := by
  unfold nA rsB
  rw [show 15 + (6 * r) + k = 15 + (r * 6 + k) by omega]
def mOk (B : Nat → Nat) : Prop := wOk (B 0) (kdB B) (wdB B) ∧ B 1 ≤ B 0 ∧ rOk (B 0) (wdB B) (rsB B) ∧ B 39 ≤ 8 ∧ B 14 < 2 ^ 31
theorem mOk.w {B : Nat → Nat} (h : mOk B) : wOk (B 0) (kdB B) (wdB B) := h.1
theorem mOk.n {B : Nat → Nat} (h : mOk B) : B 0 ≤ 6 := h.1.1
theorem mOk.wd {B : Nat → Nat} (h : mOk B) : ∀ j, j < B 0 → 2 ≤ wdB B j ∧ wdB B j ≤ 19 := h.1.2.2.1
theorem mOk.kd {B : Nat → Nat} (h : mOk B) : ∀ j, j < B 0 → kdB B j ≤ 4 := h.1.2.1
theorem mOk.rs {B : Nat → Nat} (h : mOk B) : rOk (B 0) (wdB B) (rsB B) := h.2.2.1
theorem mOk.row {B : Nat → Nat} (h : mOk B) {r : Nat} (hr : r < 4) : ∀ j, j < B 0 → rsB B (r * 6 + j) < wdB B j := fun j hj => h.2.2.1 r j hr hj
/-- a register's rests as a row -/
def rwR (B : Nat → Nat) (r : Nat) : Nat → Nat := fun k => rsB B (r * 6 + k)
noncomputable def VB (B : Nat → Nat) (r : Nat) : Nat := Val (B 0) (wdB B) (rwR B r)
def rgB (B : Nat → Nat) : Nat := prW (wdB B) (B 1)
def spB (B : Nat → Nat) : Nat := prW (wdB B) (B 0)
theorem rgB_b {B : Nat → Nat} (h : mOk B) : 1 ≤ rgB B ∧ rgB B ≤ 47045881 := prW_b h.1 h.2.1
theorem spB_b {B : Nat → Nat} (h : mOk B) : 1 ≤ spB B ∧ spB B ≤ 47045881 := prW_b h.1 (Nat.le_refl _)
theorem VB_lt {B : Nat → Nat} (h : mOk B) {r : Nat} (hr : r < 4) : VB B r < spB B := Val_lt h.1 (h.row hr) (Nat.le_refl _)
/-- the row that looks() lays -/
def lkN (B : Nat → Nat) (r k : Nat) (Rs : Nat → Nat) : Nat → Nat := fun i => if i < k then rsB B (r * 6 + i) else Rs i
theorem lkN_0 (B : Nat → Nat) (r : Nat) (Rs : Nat → Nat) : nA Rs = nA (lkN B r 0 Rs) := nA_fun (fun i => by simp [lkN])
theorem lkN_s (B : Nat → Nat) (r k : Nat) (Rs : Nat → Nat) : nA (uN (lkN B r k Rs) k (rsB B (r * 6 + k))) = nA (lkN B r (k + 1) Rs) := nA_fun (fun i => by
  unfold uN lkN
  by_cases h : i = k
  · rw [if_pos h, if_pos (by omega), h]
  · rw [if_neg h]
    by_cases h2 : i < k
    · rw [if_pos h2, if_pos (by omega)]
    · rw [if_neg h2, if_neg (by omega)])
theorem Val_congr {n : Nat} {W r q : Nat → Nat} (h : ∀ j, j < n → r j = q j) : Val n W r = Val n W q := by
  unfold Val
  congr 1
  funext v
  apply propext
  exact ⟨fun z => ⟨z.1, fun j hj => (z.2 j hj).trans (h j hj)⟩, fun z => ⟨z.1, fun j hj => (z.2 j hj).trans (h j hj).symm⟩⟩
theorem lk_val {B : Nat → Nat} (h : B 0 ≤ 6) (r : Nat) (Rs : Nat → Nat) : Val (B 0) (wdB B) (lkN B r 6 Rs) = VB B r := Val_congr (fun j hj => by unfold lkN rwR; rw [if_pos (by omega)])
theorem lk_lt {B : Nat → Nat} (h : mOk B) {r : Nat} (hr : r < 4) (Rs : Nat → Nat) : ∀ j, j < B 0 → lkN B r 6 Rs j < wdB B j := fun j hj => by
  have := h.n
  unfold lkN
  rw [if_pos (by omega)]
  exact h.row hr j hj
def lk4 (B : Nat → Nat) : Nat → (Nat → Nat) → Nat → Nat | 0, Rs => Rs | r + 1, Rs => lkN B r 6 (lk4 B r Rs)
