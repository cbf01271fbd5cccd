/-! rows of numbers as rows of ints; what the registers become -/
def nA (g : Nat → Nat) : Nat → Int32 := fun j => nI (g j)
def uN (g : Nat → Nat) (i x : Nat) : Nat → Nat := fun j => if j = i then x else g j
def cpN (f g : Nat → Nat) (sp dp n : Nat) : Nat → Nat := fun j => if dp ≤ j ∧ j < dp + n then f (sp + (j - dp)) else g j
theorem nA_upd (g : Nat → Nat) (i x : Nat) : upd (nA g) i (nI x) = nA (uN g i x) := by
  funext j
  by_cases h : j = i
  · subst h; rw [pk_us]; simp [nA, uN]
  · rw [pk_un h]; simp [nA, uN, h]
theorem nA_cpy (f g : Nat → Nat) (sp dp n : Nat) : va_cpy (nA f) (nA g) sp dp n = nA (cpN f g sp dp n) := by
  funext j
  by_cases h : dp ≤ j ∧ j < dp + n
  · rw [pk_cpy_in h.1 h.2]; simp [nA, cpN, h]
  · rw [pk_cpy_out (by omega)]; simp [nA, cpN, h]
theorem nA_fun {f g : Nat → Nat} (h : ∀ j, f j = g j) : nA f = nA g := by rw [show f = g from funext h]
def zN (j : Nat) (R : Nat → Nat) : Nat → Nat := fun i => if i < j then 0 else R i
theorem zN_0 (R : Nat → Nat) : nA R = nA (zN 0 R) := nA_fun (fun i => by simp [zN])
theorem zN_s (j : Nat) (R : Nat → Nat) : nA (uN (zN j R) j 0) = nA (zN (j + 1) R) := nA_fun (fun i => by
  unfold uN zN
  by_cases h : i = j
  · rw [if_pos h, if_pos (by omega)]
  · rw [if_neg h]
    by_cases h2 : i < j
    · rw [if_pos h2, if_pos (by omega)]
    · rw [if_neg h2, if_neg (by omega)])
/-- the rests of a register become F, as far as there are wheels -/
def rwN (r : Nat) (F : Nat → Nat) (n : Nat) (R : Nat → Nat) : Nat → Nat := fun i => if r * 6 ≤ i ∧ i < r * 6 + n then F (i - r * 6) else R i
theorem rwN_0 (r : Nat) (F R : Nat → Nat) : nA R = nA (rwN r F 0 R) := nA_fun (fun i => by
  unfold rwN
  rw [if_neg (by omega)])
theorem rwN_s {r k x : Nat} {F R : Nat → Nat} (h : x = F k) : nA (uN (rwN r F k R) (r * 6 + k) x) = nA (rwN r F (k + 1) R) := nA_fun (fun i => by
  unfold uN rwN
  by_cases h1 : i = r * 6 + k
  · rw [if_pos h1, if_pos (by omega), h, h1, Nat.add_sub_cancel_left]
  · rw [if_neg h1]
    by_cases h2 : r * 6 ≤ i ∧ i < r * 6 + k
    · rw [if_pos h2, if_pos (by omega)]
    · rw [if_neg h2, if_neg (by omega)])
theorem rwN_at {r o k : Nat} {F R : Nat → Nat} (hk : k < 6) : rwN r F k R (o * 6 + k) = R (o * 6 + k) := by
  unfold rwN
  rw [if_neg (by omega)]
def lcg (d : Nat) : Nat := (d * 1103515245 + 12345) % 2147483648
theorem lcg_lt (d : Nat) : lcg d < 2147483648 := Nat.mod_lt _ (by decide)
theorem and31 (x : Nat) : nI x &&& nI 2147483647 = nI (x % 2147483648) := by
  rw [pk_and (nI x) (m := nI 2147483647) 31 (by decide)]
  congr 1
  show (BitVec.ofNat 32 x).toNat % 2 ^ 31 = x % 2147483648
  rw [BitVec.toNat_ofNat, Nat.mod_mod_of_dvd _ (by decide)]
def adF (K W R : Nat → Nat) (r o : Nat) : Nat → Nat := fun k => addK (K k) (W k) (R (r * 6 + k)) (R (o * 6 + k))
def muF (K W R : Nat → Nat) (r o : Nat) : Nat → Nat := fun k => addO (K k) (W k) 0 (R (r * 6 + k)) (R (o * 6 + k))
def ngF (W R : Nat → Nat) (r : Nat) : Nat → Nat := fun k => if R (r * 6 + k) = 0 then 0 else W k - R (r * 6 + k)
def dfR (n : Nat) (K W R : Nat → Nat) (d : Nat) : Nat → Nat := if 0 < n ∧ d / 2048 % 5 = 0 then uN (rwN (d / 65536 % 4) (adF K W R (d / 65536 % 4) (d / 128 % 4)) n R) (d / 65536 % 4 * 6 + d / 256 % n) ((rwN (d / 65536 % 4) (adF K W R (d / 65536 % 4) (d / 128 % 4)) n R (d / 65536 % 4 * 6 + d / 256 % n) + 1) % W (d / 256 % n)) else rwN (d / 65536 % 4) (adF K W R (d / 65536 % 4) (d / 128 % 4)) n R
/-- rests are below their widths -/
def rOk (n : Nat) (W R : Nat → Nat) : Prop := ∀ r k, r < 4 → k < n → R (r * 6 + k) < W k
theorem rOk_rw {n r : Nat} {W R F : Nat → Nat} (h : rOk n W R) (hn : n ≤ 6) (hF : ∀ k, k < n → F k < W k) : rOk n W (rwN r F n R) := by
  intro r2 k hr hk
  unfold rwN
  by_cases q : r2 = r
  · subst q
    rw [if_pos (by omega), Nat.add_sub_cancel_left]
    exact hF k hk
  · rw [if_neg (by omega)]
    exact h r2 k hr hk
theorem rOk_u {n r k x : Nat} {W R : Nat → Nat} (h : rOk n W R) (hn : n ≤ 6) (hk2 : k < 6) (hx : x < W k) : rOk n W (uN R (r * 6 + k) x) := by
  intro r2 k2 hr hk
  unfold uN
  by_cases q : r2 * 6 + k2 = r * 6 + k
  · have e : k2 = k := by omega
    subst e
    rw [if_pos q]
    exact hx
  · rw [if_neg q]
    exact h r2 k2 hr hk
theorem adF_lt {n : Nat} {K W R : Nat → Nat} (h : rOk n W R) {r o : Nat} (hr : r < 4) (ho : o < 4) : ∀ k, k < n → adF K W R r o k < W k := fun k hk => addK_lt _ (h r k hr hk) (h o k ho hk)
theorem muF_lt {n : Nat} {K W R : Nat → Nat} (h : rOk n W R) {r o : Nat} (hr : r < 4) : ∀ k, k < n → muF K W R r o k < W k := fun k hk => addO_lt (by have := h r k hr hk; omega) (h r k hr hk) _
theorem ngF_lt {n : Nat} {W R : Nat → Nat} (h : rOk n W R) {r : Nat} (hr : r < 4) : ∀ k, k < n → ngF W R r k < W k := fun k hk => by
  have := h r k hr hk
  unfold ngF
  split <;> omega
def vR (S R : Nat → Nat) (sp n r : Nat) : Nat := vS S (fun k => R (r * 6 + k)) sp n
