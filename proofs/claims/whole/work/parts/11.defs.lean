/-! wheels as numbers: what the two sides compute, by recursion as their loops do -/
def isA (n : Nat) (f : Nat → Int32) (g : Nat → Nat) : Prop := ∀ j, j < n → f j = nI (g j)
def wOk (n : Nat) (K W : Nat → Nat) : Prop := n ≤ 6 ∧ (∀ j, j < n → K j ≤ 4) ∧ (∀ j, j < n → 2 ≤ W j ∧ W j ≤ 19) ∧ (∀ i j, i < j → j < n → Nat.gcd (W i) (W j) = 1)
def prW (W : Nat → Nat) : Nat → Nat | 0 => 1 | k + 1 => prW W k * W k
def addO (kd w a b : Nat) : Nat → Nat | 0 => a | t + 1 => addK kd w (addO kd w a b t) b
def wrongB (kd w a b : Nat) : Bool := decide (addK kd w a b ≠ plainA w a b)
def wrR (kd w a : Nat) : Nat → Nat | 0 => 0 | b + 1 => wrR kd w a b + (if wrongB kd w a b then 1 else 0)
def wrS (kd w : Nat) : Nat → Nat | 0 => 0 | a + 1 => wrS kd w a + wrR kd w a w
def fstN (p : Nat → Bool) : Nat → Nat → Nat | _, 0 => 0 | s, f + 1 => if p s then s else fstN p (s + 1) f
def rnd (kd w a b : Nat) : Nat := fstN (fun t => decide (addO kd w a b t = a)) 1 w
def orS (P : Nat → Bool) : Nat → Nat | 0 => 0 | k + 1 => orS P k ||| (if P k then 2 ^ k else 0)
def dvs (W : Nat → Nat) (v : Nat) : Nat → Nat | 0 => v | j + 1 => dvs W v j / W j
def prO (W : Nat → Nat) (o : Nat) : Nat → Nat | 0 => 1 | j + 1 => prO W o j * (if hasB o j then W j else 1)
def popc (x : Nat) : Nat := x % 2 + x / 2 % 2 + x / 4 % 2 + x / 8 % 2 + x / 16 % 2 + x / 32 % 2
def mA (n : Nat) (W : Nat → Nat) (rg v : Nat) : Nat → Nat | 0 => 0 | o + 1 => if v % prO W o n < rg then max (mA n W rg v o) (popc o) else mA n W rg v o
def lA (n : Nat) (W : Nat → Nat) (rg v al : Nat) : Nat → Nat | 0 => rg | o + 1 => if popc o = al then min (lA n W rg v al o) (v % prO W o n) else lA n W rg v al o
def fU (n : Nat) (W : Nat → Nat) (rg : Nat) : Nat → Nat | 0 => 0 | o + 1 => if prO W o n < rg then max (fU n W rg o) (popc o) else fU n W rg o
def tOn (S : Nat → Nat) (sp v o : Nat) : Nat → Nat | 0 => v | j + 1 => if hasB o j then (tOn S sp v o j + S j) % sp else tOn S sp v o j
def uC (n : Nat) (S : Nat → Nat) (sp rg v c : Nat) : Nat → Nat | 0 => 0 | o + 1 => if o = 0 then 0 else uC n S sp rg v c o + (if tOn S sp v o n < rg then c ^ popc o * (10 - c) ^ (n - popc o) else 0)
def vS (S r : Nat → Nat) (sp : Nat) : Nat → Nat | 0 => 0 | k + 1 => (vS S r sp k + r k * S k) % sp
theorem pow19 {j : Nat} (h : j ≤ 6) : 19 ^ j ≤ 47045881 := by
  have : 19 ^ j ≤ 19 ^ 6 := Nat.pow_le_pow_right (by decide) h
  exact Nat.le_trans this (by decide)
theorem prO_le {n : Nat} {K W : Nat → Nat} (ok : wOk n K W) (o : Nat) : ∀ j, j ≤ n → 1 ≤ prO W o j ∧ prO W o j ≤ 19 ^ j
  | 0, _ => ⟨Nat.le_refl _, Nat.le_refl _⟩
  | j + 1, h => by
    have ih := prO_le ok o j (by omega)
    have hw := ok.2.2.1 j (by omega)
    rw [prO, Nat.pow_succ]
    have hf : 1 ≤ (if hasB o j then W j else 1) ∧ (if hasB o j then W j else 1) ≤ 19 := by split <;> omega
    exact ⟨Nat.mul_pos ih.1 hf.1, Nat.mul_le_mul ih.2 hf.2⟩
theorem prO_b {n : Nat} {K W : Nat → Nat} (ok : wOk n K W) (o : Nat) {j : Nat} (h : j ≤ n) : 1 ≤ prO W o j ∧ prO W o j ≤ 47045881 :=
  ⟨(prO_le ok o j h).1, Nat.le_trans (prO_le ok o j h).2 (pow19 (Nat.le_trans h ok.1))⟩
theorem prW_le {n : Nat} {K W : Nat → Nat} (ok : wOk n K W) : ∀ j, j ≤ n → 1 ≤ prW W j ∧ prW W j ≤ 19 ^ j
  | 0, _ => ⟨Nat.le_refl _, Nat.le_refl _⟩
  | j + 1, h => by
    have ih := prW_le ok j (by omega)
    have hw := ok.2.2.1 j (by omega)
    rw [prW, Nat.pow_succ]
    exact ⟨Nat.mul_pos ih.1 (by omega), Nat.mul_le_mul ih.2 hw.2⟩
theorem prW_b {n : Nat} {K W : Nat → Nat} (ok : wOk n K W) {j : Nat} (h : j ≤ n) : 1 ≤ prW W j ∧ prW W j ≤ 47045881 :=
  ⟨(prW_le ok j h).1, Nat.le_trans (prW_le ok j h).2 (pow19 (Nat.le_trans h ok.1))⟩
theorem addO_lt {kd w a b : Nat} (ha : a < w) (hb : b < w) : ∀ t, addO kd w a b t < w
  | 0 => ha
  | t + 1 => addK_lt kd (addO_lt ha hb t) hb
theorem wrR_le (kd w a : Nat) : ∀ b, wrR kd w a b ≤ b
  | 0 => Nat.le_refl 0
  | b + 1 => by
    have ih := wrR_le kd w a b
    rw [wrR]
    split <;> omega
theorem wrS_le (kd w : Nat) : ∀ a, wrS kd w a ≤ a * w
  | 0 => Nat.zero_le _
  | a + 1 => by
    have ih := wrS_le kd w a
    have h1 := wrR_le kd w a w
    rw [wrS, Nat.succ_mul]
    omega
theorem dvs_le (W : Nat → Nat) (v : Nat) : ∀ j, dvs W v j ≤ v
  | 0 => Nat.le_refl v
  | j + 1 => by rw [dvs]; exact Nat.le_trans (Nat.div_le_self _ _) (dvs_le W v j)
theorem popc_b : ∀ {n x : Nat}, n ≤ 6 → x < 2 ^ n → popc x ≤ n := by
  intro n x hn hx
  have hall : ∀ n : Fin 7, ∀ x : Fin 64, x.val < 2 ^ n.val → popc x.val ≤ n.val := by decide +kernel
  have h64 : x < 64 := Nat.lt_of_lt_of_le hx (Nat.le_trans (Nat.pow_le_pow_right (by decide) hn) (by decide))
  exact hall ⟨n, by omega⟩ ⟨x, h64⟩ hx
theorem two_b {n : Nat} (hn : n ≤ 6) : 1 ≤ 2 ^ n ∧ 2 ^ n ≤ 64 := ⟨Nat.pos_of_ne_zero (fun h => by simp at h), Nat.le_trans (Nat.pow_le_pow_right (by decide) hn) (by decide)⟩
theorem mA_le {n : Nat} (hn : n ≤ 6) (W : Nat → Nat) (rg v : Nat) : ∀ o, o ≤ 2 ^ n → mA n W rg v o ≤ n
  | 0, _ => Nat.zero_le _
  | o + 1, h => by
    have ih := mA_le hn W rg v o (by omega)
    have hp := popc_b (x := o) hn (by omega)
    rw [mA]
    split <;> omega
theorem fU_le {n : Nat} (hn : n ≤ 6) (W : Nat → Nat) (rg : Nat) : ∀ o, o ≤ 2 ^ n → fU n W rg o ≤ n
  | 0, _ => Nat.zero_le _
  | o + 1, h => by
    have ih := fU_le hn W rg o (by omega)
    have hp := popc_b (x := o) hn (by omega)
    rw [fU]
    split <;> omega
theorem lA_le (n : Nat) (W : Nat → Nat) (rg v al : Nat) : ∀ o, lA n W rg v al o ≤ rg
  | 0 => Nat.le_refl _
  | o + 1 => by
    have ih := lA_le n W rg v al o
    rw [lA]
    split <;> omega
theorem tOn_lt {S : Nat → Nat} {sp v : Nat} (o : Nat) (hv : v < sp) : ∀ j, tOn S sp v o j < sp
  | 0 => hv
  | j + 1 => by
    rw [tOn]
    split
    · exact Nat.mod_lt _ (by omega)
    · exact tOn_lt o hv j
theorem pw_b {c a b : Nat} (hc : c ≤ 10) (h : a + b ≤ 6) : c ^ a * (10 - c) ^ b ≤ 1000000 := by
  have h1 : c ^ a ≤ 10 ^ a := Nat.pow_le_pow_left hc a
  have h2 : (10 - c) ^ b ≤ 10 ^ b := Nat.pow_le_pow_left (by omega) b
  have h3 : 10 ^ a * 10 ^ b ≤ 10 ^ 6 := by rw [← Nat.pow_add]; exact Nat.pow_le_pow_right (by decide) h
  exact Nat.le_trans (Nat.mul_le_mul h1 h2) (Nat.le_trans h3 (by decide))
theorem uC_le {n : Nat} (hn : n ≤ 6) (S : Nat → Nat) (sp rg v : Nat) {c : Nat} (hc : c ≤ 10) : ∀ o, o ≤ 2 ^ n → uC n S sp rg v c o ≤ o * 1000000
  | 0, _ => Nat.zero_le _
  | o + 1, h => by
    have ih := uC_le hn S sp rg v hc o (by omega)
    have hp := popc_b (x := o) hn (by omega)
    have hw := pw_b (c := c) (a := popc o) (b := n - popc o) hc (by omega)
    rw [uC, Nat.succ_mul]
    generalize c ^ popc o * (10 - c) ^ (n - popc o) = z at hw ⊢
    generalize uC n S sp rg v c o = y at ih ⊢
    generalize o * 1000000 = x at ih ⊢
    split
    · exact Nat.zero_le _
    · split
      · exact Nat.add_le_add ih hw
      · exact Nat.le_trans ih (Nat.le_add_right _ _)
theorem vS_lt {S r : Nat → Nat} {sp : Nat} (hs : 0 < sp) : ∀ k, vS S r sp k < sp
  | 0 => hs
  | k + 1 => Nat.mod_lt _ hs
def bcF (x : Int32) : Int32 :=
  let u := fun (x y : Int32) => ((x).toUInt32 >>> ((y).toUInt32 &&& Int32.toUInt32 31)).toInt32
  let a := x - (u x (nI 1) &&& nI 1431655765)
  let b := (a &&& nI 858993459) + (u a (nI 2) &&& nI 858993459)
  let d := (b + u b (nI 4)) &&& nI 252645135
  let e := d + u d (nI 8)
  let f := e + u e (nI 16)
  f &&& nI 63
theorem bcF_ok {x : Nat} (hx : x < 64) : bcF (nI x) = nI (popc x) := by
  have hall : ∀ x : Fin 64, bcF (nI x.val) = nI (popc x.val) := by decide +kernel
  exact hall ⟨x, hx⟩
def cmpI (x y : Int32) : Int32 := if x < y then -1 else if x = y then nI 0 else nI 1
theorem addK_b {kd w a b : Nat} (ha : a < w) (hb : b < w) (hw : 2 ≤ w ∧ w ≤ 19) : addK kd w a b < 2 ^ 31 := Nat.lt_of_lt_of_le (addK_lt kd ha hb) (by omega)
