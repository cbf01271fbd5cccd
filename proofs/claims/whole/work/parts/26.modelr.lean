theorem mOk_14 {B : Nat → Nat} (h : mOk B) {d : Nat} (hd : d < 2 ^ 31) : mOk (uN B 14 d) :=
  mOk_rs h (fun j hj => uN_ne (by omega)) (by rw [uN_eq]; exact hd) (by rw [uN_ne (by omega)]; exact h.2.2.2.1) (rOk_fun h.rs h.n (fun i _ => uN_ne (by omega)))
theorem md_df {B : Nat → Nat} (h : B 0 ≤ 6) {d : Nat} : nA (rwB (d / 65536 % 4) (adF (kdB (uN (mdB B) 14 d)) (wdB (uN (mdB B) 14 d)) (rsB (uN (mdB B) 14 d)) (d / 65536 % 4) (d / 128 % 4)) (uN (mdB B) 14 d 0) (uN (mdB B) 14 d)) = nA (dfC0 B d) := by
  have e : ∀ j, j < 39 → j ≠ 14 → uN (mdB B) 14 d j = B j := fun j h1 h2 => by rw [uN_ne h2, mdB_lo h1]
  refine rwB_cong (e 0 (by omega) (by omega)) (fun k hk => ?_)
  rw [e 0 (by omega) (by omega)] at hk
  unfold adF kdB wdB rsB
  rw [e _ (by omega) (by omega), e _ (by omega) (by omega), e _ (by omega) (by omega), e _ (by omega) (by omega)]
theorem inL_nI {t : Nat} {lo hi : Int64} (ht : t < 2 ^ 31) (h : lo.toInt ≤ (t : Int) ∧ (t : Int) ≤ hi.toInt) : inL (nI t).toInt64 lo hi = true := by
  unfold inL
  rw [Int32.toInt_toInt64, nI_toInt ht]
  exact decide_eq_true h
theorem lk_at {B : Nat → Nat} {r k : Nat} {Rs : Nat → Nat} (h : k < 6) : lkN B r 6 Rs k = rwR B r k := by unfold lkN rwR; rw [if_pos h]
theorem VB_b {B : Nat → Nat} (h : mOk B) {r : Nat} (hr : r < 4) : VB B r < 47045881 := Nat.lt_of_lt_of_le (VB_lt h hr) (spB_b h).2
def orI (a b : Nat) : Nat := if a < b then 0 else if a = b then 1 else 2
def apI (n : Nat) (W : Nat → Nat) (rg : Nat) : Int32 := if apC n W rg = 1000000000 then -4 else nI (apC n W rg)
def agI (B : Nat → Nat) (r o : Nat) : Int32 := if agR B r o = 0 then -4 else nI (agR B r o)
theorem fstN_b (p : Nat → Bool) : ∀ f s, fstN p s f = 0 ∨ (s ≤ fstN p s f ∧ fstN p s f < s + f)
  | 0, s => Or.inl rfl
  | f + 1, s => by
    rw [fstN]
    split
    · right; omega
    · rcases fstN_b p f (s + 1) with h | h
      · exact Or.inl h
      · right; omega
theorem agB_f {B : Nat → Nat} {r o t k : Nat} (h : agB B r o t k = false) : ∀ n, k ≤ n → agB B r o t n = false
  | 0, hn => by rw [← Nat.le_zero.mp hn]; exact h
  | n + 1, hn => by
    rcases Nat.lt_or_ge k (n + 1) with q | q
    · rw [agB, agB_f h n (by omega)]; rfl
    · rw [← Nat.le_antisymm hn q]; exact h
theorem bl_val {n : Nat} {W r Rz : Nat → Nat} {k v : Nat} (h : ∀ j, j < n → j ≠ k → Rz j = r j) : Val n W (uN Rz k v) = Val n W (uN r k v) := Val_congr (fun j hj => by
  unfold uN
  by_cases q : j = k
  · rw [if_pos q, if_pos q]
  · rw [if_neg q, if_neg q]; exact h j hj q)
theorem tk_val {n : Nat} {W r f : Nat → Nat} {o : Nat} : Val n W (tkN W r o n f) = Val n W (trN W r o) := Val_congr (fun j hj => by unfold tkN; rw [if_pos hj])
theorem blS_s {n : Nat} {W r : Nat → Nat} {rg k : Nat} : (blS n W r rg k ||| (if blI n W r rg k (W k) then 2 ^ k else 0)) = blS n W r rg (k + 1) := rfl
