/-! what the reference's memory becomes -/
def rwB (r : Nat) (F : Nat → Nat) (n : Nat) (B : Nat → Nat) : Nat → Nat := fun i => if 15 + 6 * r ≤ i ∧ i < 15 + 6 * r + n then F (i - (15 + 6 * r)) else B i
theorem rwB_0 (r : Nat) (F B : Nat → Nat) : nA B = nA (rwB r F 0 B) := nA_fun (fun i => by
  unfold rwB
  rw [if_neg (by omega)])
theorem rwB_s {r k x : Nat} {F B : Nat → Nat} (h : x = F k) : nA (uN (rwB r F k B) (15 + (6 * r) + k) x) = nA (rwB r F (k + 1) B) := nA_fun (fun i => by
  unfold uN rwB
  by_cases h1 : i = 15 + (6 * r) + k
  · rw [if_pos h1, if_pos (by omega), h, h1, Nat.add_sub_cancel_left]
  · rw [if_neg h1]
    by_cases h2 : 15 + 6 * r ≤ i ∧ i < 15 + 6 * r + k
    · rw [if_pos h2, if_pos (by omega)]
    · rw [if_neg h2, if_neg (by omega)])
theorem rwB_lo {r n j : Nat} {F B : Nat → Nat} (h : j < 15) : rwB r F n B j = B j := by
  unfold rwB
  rw [if_neg (by omega)]
theorem rwB_hi {r n j : Nat} {F B : Nat → Nat} (hr : r < 4) (hn : n ≤ 6) (h : 39 ≤ j) : rwB r F n B j = B j := by
  unfold rwB
  rw [if_neg (by omega)]
theorem rwB_at {r o k : Nat} {F B : Nat → Nat} (hk : k < 6) : nA (rwB r F k B) (15 + (6 * o) + k) = nI (rsB B (o * 6 + k)) := by
  unfold nA rwB rsB
  rw [if_neg (by omega), show 15 + (6 * o) + k = 15 + (o * 6 + k) by omega]
theorem rwB_wd {r n k : Nat} {F B : Nat → Nat} (h : k < 6) : nA (rwB r F n B) (8 + k) = nI (wdB B k) := by
  unfold nA wdB
  rw [rwB_lo (by omega)]
theorem rwB_rs (r n : Nat) (F B : Nat → Nat) : ∀ i, rsB (rwB r F n B) i = rwN r F n (rsB B) i := by
  intro i
  unfold rsB rwB rwN
  by_cases h : r * 6 ≤ i ∧ i < r * 6 + n
  · rw [if_pos (by omega), if_pos h, show 15 + i - (15 + 6 * r) = i - r * 6 by omega]
  · rw [if_neg (by omega), if_neg h]
/-- two memories that are alike where wheels and rests stand -/
theorem mOk_rs {B C : Nat → Nat} (h : mOk B) (hlo : ∀ j, j < 14 → C j = B j) (h14 : C 14 < 2 ^ 31) (h39 : C 39 ≤ 8) (hr : rOk (B 0) (wdB B) (rsB C)) : mOk C := by
  have hk : ∀ j, j < B 0 → kdB C j = kdB B j := fun j hj => hlo _ (by have := h.n; omega)
  have hw : ∀ j, j < B 0 → wdB C j = wdB B j := fun j hj => hlo _ (by have := h.n; omega)
  have e0 : C 0 = B 0 := hlo 0 (by omega)
  have e1 : C 1 = B 1 := hlo 1 (by omega)
  refine ⟨⟨by rw [e0]; exact h.n, ?_, ?_, ?_⟩, by rw [e0, e1]; exact h.2.1, ?_, h39, h14⟩
  · intro j hj; rw [e0] at hj; rw [hk j hj]; exact h.kd j hj
  · intro j hj; rw [e0] at hj; rw [hw j hj]; exact h.wd j hj
  · intro i j hij hj; rw [e0] at hj; rw [hw i (by omega), hw j hj]; exact h.1.2.2.2 i j hij hj
  · intro r k hr4 hk2; rw [e0] at hk2; rw [hw k hk2]; exact hr r k hr4 hk2
theorem rOk_fun {n : Nat} {W R R2 : Nat → Nat} (h : rOk n W R) (hn : n ≤ 6) (e : ∀ i, i < 24 → R2 i = R i) : rOk n W R2 := fun r k hr hk => by
  rw [e _ (by omega)]
  exact h r k hr hk
theorem mOk_rw {B F : Nat → Nat} (h : mOk B) {r : Nat} (hr : r < 4) (hF : ∀ k, k < B 0 → F k < wdB B k) : mOk (rwB r F (B 0) B) :=
  mOk_rs h (fun j hj => rwB_lo (by omega)) (by rw [rwB_lo (by omega)]; exact h.2.2.2.2) (by rw [rwB_hi hr h.n (by omega)]; exact h.2.2.2.1) (rOk_fun (rOk_rw h.rs h.n hF) h.n (fun i _ => rwB_rs r _ F B i))
/-- minds(): what may be undone grows, or its oldest is lost -/
def md1 (B : Nat → Nat) : Nat → Nat := if B 39 = 8 then uN (cpN B B 65 40 175) 39 (8 - 1) else B
def mdB (B : Nat → Nat) : Nat → Nat := uN (cpN (md1 B) (md1 B) 14 (40 + 25 * md1 B 39) 25) 39 (md1 B 39 + 1)
theorem cpN_0 (B C : Nat → Nat) (s d : Nat) : nA C = nA (cpN B C s d 0) := nA_fun (fun i => by unfold cpN; rw [if_neg (by omega)])
theorem cpN_s {B C : Nat → Nat} {s d k i x : Nat} (hi : i = d + k) (hx : x = B (s + k)) : nA (uN (cpN B C s d k) i x) = nA (cpN B C s d (k + 1)) := nA_fun (fun j => by
  subst hi
  subst hx
  unfold uN cpN
  by_cases h : j = d + k
  · rw [if_pos h, if_pos (by omega), h, Nat.add_sub_cancel_left]
  · rw [if_neg h]
    by_cases h2 : d ≤ j ∧ j < d + k
    · rw [if_pos h2, if_pos (by omega)]
    · rw [if_neg h2, if_neg (by omega)])
theorem cpN_out {B C : Nat → Nat} {s d k j : Nat} (h : j < d ∨ d + k ≤ j) : cpN B C s d k j = C j := by unfold cpN; rw [if_neg (by omega)]
theorem cpN_in {B C : Nat → Nat} {s d k j : Nat} (h : d ≤ j ∧ j < d + k) : cpN B C s d k j = B (s + (j - d)) := by unfold cpN; rw [if_pos h]
theorem uN_ne {g : Nat → Nat} {i j x : Nat} (h : j ≠ i) : uN g i x j = g j := by unfold uN; rw [if_neg h]
theorem uN_eq {g : Nat → Nat} {i x : Nat} : uN g i x i = x := by unfold uN; rw [if_pos rfl]
theorem md1_lo {B : Nat → Nat} {j : Nat} (h : j < 39) : md1 B j = B j := by
  unfold md1
  split
  · rw [uN_ne (by omega), cpN_out (by omega)]
  · rfl
theorem md1_39 {B : Nat → Nat} (h : B 39 ≤ 8) : md1 B 39 = min (B 39) 7 := by
  unfold md1
  split
  · rw [uN_eq]; omega
  · omega
theorem mdB_lo {B : Nat → Nat} {j : Nat} (h : j < 39) : mdB B j = B j := by
  unfold mdB
  rw [uN_ne (by omega), cpN_out (by omega), md1_lo h]
theorem mdB_39 {B : Nat → Nat} (h : B 39 ≤ 8) : mdB B 39 = min (B 39 + 1) 8 := by
  unfold mdB
  rw [uN_eq, md1_39 h]; omega
theorem mOk_md {B : Nat → Nat} (h : mOk B) : mOk (mdB B) :=
  mOk_rs h (fun j hj => mdB_lo (by omega)) (by rw [mdB_lo (by omega)]; exact h.2.2.2.2) (by rw [mdB_39 h.2.2.2.1]; omega) (rOk_fun h.rs h.n (fun i hi => mdB_lo (by omega)))
def udB (B : Nat → Nat) : Nat → Nat := cpN (uN B 39 (B 39 - 1)) (uN B 39 (B 39 - 1)) (40 + 25 * (B 39 - 1)) 14 25
def agB (B : Nat → Nat) (r o t : Nat) : Nat → Bool | 0 => true | k + 1 => agB B r o t k && decide (addO (kdB B k) (wdB B k) (rsB B (r * 6 + k)) (rsB B (o * 6 + k)) t = rsB B (r * 6 + k))
def agR (B : Nat → Nat) (r o : Nat) : Nat := fstN (fun t => agB B r o t (B 0)) 1 2000
def dfC (W rr : Nat → Nat) (v : Nat) : Nat → Nat | 0 => 0 | k + 1 => dfC W rr v k + (if v % W k = rr k then 0 else 1)
theorem dfC_le (W rr : Nat → Nat) (v : Nat) : ∀ k, dfC W rr v k ≤ k
  | 0 => Nat.le_refl 0
  | k + 1 => by have := dfC_le W rr v k; rw [dfC]; split <;> omega
/-- the fewest that are other ones, of numbers below v -/
def nrC (n : Nat) (W rr : Nat → Nat) : Nat → Nat | 0 => 1000000000 | v + 1 => if dfC W rr v n < nrC n W rr v then dfC W rr v n else nrC n W rr v
def nrB (n : Nat) (W rr : Nat → Nat) : Nat → Nat | 0 => 0 | v + 1 => if dfC W rr v n < nrC n W rr v then v else nrB n W rr v
theorem nrC_le (n : Nat) (W rr : Nat → Nat) : ∀ v, nrC n W rr v ≤ 1000000000
  | 0 => Nat.le_refl _
  | v + 1 => by have := nrC_le n W rr v; rw [nrC]; split <;> omega
def apC (n : Nat) (W : Nat → Nat) : Nat → Nat | 0 => 1000000000 | v + 1 => if v = 0 then 1000000000 else (if dfC W (fun _ => 0) v n < apC n W v then dfC W (fun _ => 0) v n else apC n W v)
theorem apC_le (n : Nat) (W : Nat → Nat) : ∀ v, apC n W v ≤ 1000000000
  | 0 => Nat.le_refl _
  | v + 1 => by
    have := apC_le n W v
    rw [apC]
    split
    · omega
    · split <;> omega
def trN (W r : Nat → Nat) (o : Nat) : Nat → Nat := fun k => if hasB o k then (r k + 1) % W k else r k
def wyN (c o : Nat) : Nat → Nat | 0 => 1 | k + 1 => wyN c o k * (if hasB o k then c else 10 - c)
theorem wyN_le {c : Nat} (hc : c ≤ 10) (o : Nat) : ∀ k, wyN c o k ≤ 10 ^ k
  | 0 => Nat.le_refl _
  | k + 1 => by
    rw [wyN, Nat.pow_succ]
    exact Nat.mul_le_mul (wyN_le hc o k) (by split <;> omega)
noncomputable def upN (n : Nat) (W r : Nat → Nat) (rg c : Nat) : Nat → Nat | 0 => 0 | o + 1 => if o = 0 then 0 else upN n W r rg c o + (if Val n W (trN W r o) < rg then wyN c o n else 0)
theorem upN_le {n : Nat} (hn : n ≤ 6) (W r : Nat → Nat) (rg : Nat) {c : Nat} (hc : c ≤ 10) : ∀ o, upN n W r rg c o ≤ o * 1000000
  | 0 => Nat.zero_le _
  | o + 1 => by
    have ih := upN_le hn W r rg hc o
    have hw := wyN_le hc o n
    have h10 : 10 ^ n ≤ 1000000 := Nat.le_trans (Nat.pow_le_pow_right (by decide) hn) (by decide)
    rw [upN, Nat.succ_mul]
    generalize o * 1000000 = x at ih ⊢
    split
    · exact Nat.zero_le _
    · split
      · exact Nat.add_le_add ih (Nat.le_trans hw h10)
      · exact Nat.le_trans ih (Nat.le_add_right _ _)
noncomputable def blI (n : Nat) (W r : Nat → Nat) (rg k : Nat) : Nat → Bool | 0 => false | v + 1 => blI n W r rg k v || (decide (v ≠ r k) && decide (Val n W (uN r k v) < rg))
noncomputable def blS (n : Nat) (W r : Nat → Nat) (rg : Nat) : Nat → Nat := orS (fun k => blI n W r rg k (W k))
/-- rests that are turned, as far as k -/
def tkN (W r : Nat → Nat) (o k : Nat) (f : Nat → Nat) : Nat → Nat := fun i => if i < k then trN W r o i else f i
theorem tkN_0 (W r : Nat → Nat) (o : Nat) (f : Nat → Nat) : nA f = nA (tkN W r o 0 f) := nA_fun (fun i => by simp [tkN])
theorem tkN_s {W r : Nat → Nat} {o k x : Nat} {f : Nat → Nat} (h : x = trN W r o k) : nA (uN (tkN W r o k f) k x) = nA (tkN W r o (k + 1) f) := nA_fun (fun i => by
  unfold uN tkN
  by_cases q : i = k
  · rw [if_pos q, if_pos (by omega), h, q]
  · rw [if_neg q]
    by_cases q2 : i < k
    · rw [if_pos q2, if_pos (by omega)]
    · rw [if_neg q2, if_neg (by omega)])
theorem tkN_at {W r : Nat → Nat} {o k : Nat} {f : Nat → Nat} : tkN W r o k f k = f k := by unfold tkN; rw [if_neg (by omega)]
/-- rests that are summed t times as far as k wheels, t less one behind -/
def smN (B : Nat → Nat) (r o t k : Nat) (Rs : Nat → Nat) : Nat → Nat := fun i => if i < k then addO (kdB B i) (wdB B i) (rsB B (r * 6 + i)) (rsB B (o * 6 + i)) (t + 1) else if i < 6 ∧ i < B 0 then addO (kdB B i) (wdB B i) (rsB B (r * 6 + i)) (rsB B (o * 6 + i)) t else lkN B r 6 Rs i
theorem smN_0 {B : Nat → Nat} (r o : Nat) (Rs : Nat → Nat) : nA (lkN B r 6 Rs) = nA (smN B r o 0 0 Rs) := nA_fun (fun i => by
  unfold smN
  rw [if_neg (by omega)]
  split
  · unfold lkN; rw [if_pos (by omega)]; rfl
  · rfl)
theorem smN_n {B : Nat → Nat} (h : B 0 ≤ 6) (r o t : Nat) (Rs : Nat → Nat) : nA (smN B r o t (B 0) Rs) = nA (smN B r o (t + 1) 0 Rs) := nA_fun (fun i => by
  unfold smN
  by_cases q : i < B 0
  · rw [if_pos q, if_neg (by omega), if_pos (by omega)]
  · rw [if_neg q, if_neg (by omega), if_neg (by omega), if_neg (by omega)])
theorem smN_s {B : Nat → Nat} {r o t k x : Nat} {Rs : Nat → Nat} (h : x = addO (kdB B k) (wdB B k) (rsB B (r * 6 + k)) (rsB B (o * 6 + k)) (t + 1)) : nA (uN (smN B r o t k Rs) k x) = nA (smN B r o t (k + 1) Rs) := nA_fun (fun i => by
  unfold uN smN
  by_cases q : i = k
  · rw [if_pos q, if_pos (by omega), h, q]
  · rw [if_neg q]
    by_cases q2 : i < k
    · rw [if_pos q2, if_pos (by omega)]
    · rw [if_neg q2, if_neg (show ¬ i < k + 1 by omega)])
theorem smN_at {B : Nat → Nat} {r o t k : Nat} {Rs : Nat → Nat} (h : k < B 0) (h6 : B 0 ≤ 6) : smN B r o t k Rs k = addO (kdB B k) (wdB B k) (rsB B (r * 6 + k)) (rsB B (o * 6 + k)) t := by
  unfold smN
  rw [if_neg (by omega), if_pos (by omega)]
theorem smN_at1 {B : Nat → Nat} {r o t k : Nat} {Rs : Nat → Nat} : smN B r o t (k + 1) Rs k = addO (kdB B k) (wdB B k) (rsB B (r * 6 + k)) (rsB B (o * 6 + k)) (t + 1) := by
  unfold smN
  rw [if_pos (by omega)]
theorem blI_or {n : Nat} {W r : Nat → Nat} {rg k v : Nat} (s : Nat) (b : Bool) (h : b = (decide (v ≠ r k) && decide (Val n W (uN r k v) < rg))) : (s ||| (if blI n W r rg k v then 2 ^ k else 0)) ||| (if b then 2 ^ k else 0) = s ||| (if blI n W r rg k (v + 1) then 2 ^ k else 0) := by
  rw [blI, ← h]
  cases blI n W r rg k v <;> cases b <;> simp [Nat.or_assoc]
