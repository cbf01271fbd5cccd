/-! reading a tape: both sides by the same pieces -/
def skF (T : Nat → Nat) (n : Nat) : Nat → Nat → Nat | 0, q => q | f + 1, q => if q < n ∧ T q = 32 then skF T n f (q + 1) else q
def skq (T : Nat → Nat) (n q : Nat) : Nat := skF T n (n - q) q
theorem skq_s {T : Nat → Nat} {n q : Nat} (h1 : q < n) (h2 : T q = 32) : skq T n q = skq T n (q + 1) := by
  unfold skq
  rw [show n - q = (n - (q + 1)) + 1 by omega, skF, if_pos ⟨h1, h2⟩]
theorem skq_n {T : Nat → Nat} {n q : Nat} (h : ¬ (q < n ∧ T q = 32)) : skq T n q = q := by
  unfold skq
  cases n - q with
  | zero => rfl
  | succ f => rw [skF, if_neg h]
theorem skF_b (T : Nat → Nat) (n : Nat) : ∀ f q, q ≤ n → q ≤ skF T n f q ∧ skF T n f q ≤ n
  | 0, q, h => ⟨Nat.le_refl _, h⟩
  | f + 1, q, h => by
    rw [skF]
    by_cases h1 : q < n ∧ T q = 32
    · rw [if_pos h1]
      have := skF_b T n f (q + 1) (by omega)
      exact ⟨by omega, this.2⟩
    · rw [if_neg h1]
      exact ⟨Nat.le_refl _, h⟩
theorem skq_b {T : Nat → Nat} {n q : Nat} (h : q ≤ n) : q ≤ skq T n q ∧ skq T n q ≤ n := skF_b T n _ q h
theorem skF_e (T : Nat → Nat) (n : Nat) : ∀ f q, n - q ≤ f → ¬ (skF T n f q < n ∧ T (skF T n f q) = 32)
  | 0, q, h => by
    rw [skF]
    omega
  | f + 1, q, h => by
    rw [skF]
    by_cases h1 : q < n ∧ T q = 32
    · rw [if_pos h1]
      exact skF_e T n f (q + 1) (by omega)
    · rw [if_neg h1]
      exact h1
theorem skq_skq (T : Nat → Nat) (n q : Nat) : skq T n (skq T n q) = skq T n q := skq_n (skF_e T n _ q (Nat.le_refl _))
def lkI (T : Nat → Nat) (n q : Nat) : Int32 := if q < n then nI (T q) else -1
theorem lkI_t {T : Nat → Nat} {n q : Nat} (h : q < n) : lkI T n q = nI (T q) := if_pos h
theorem lkI_f {T : Nat → Nat} {n q : Nat} (h : ¬ q < n) : lkI T n q = -1 := if_neg h
def tpOk (T : Nat → Nat) (n : Nat) : Prop := n ≤ 40 ∧ ∀ j, j < n → 32 ≤ T j ∧ T j ≤ 126
def dgB (T : Nat → Nat) (n q : Nat) : Bool := digB (lkI T n q)
theorem dgB_t {T : Nat → Nat} {n q : Nat} (ht : tpOk T n) (h : dgB T n q = true) : q < n ∧ 48 ≤ T q ∧ T q ≤ 57 := by
  unfold dgB at h
  by_cases h1 : q < n
  · rw [lkI_t h1] at h
    have h2 := of_decide_eq_true h
    have h3 := ht.2 q h1
    rw [nI_toInt (by omega)] at h2
    omega
  · rw [lkI_f h1] at h
    exact absurd h (by decide)
theorem dgB_not {T : Nat → Nat} {n q : Nat} (h : ¬ q < n) : dgB T n q = false := by
  unfold dgB
  rw [lkI_f h]
  decide
theorem inL_dig (x : Int32) : inL x.toInt64 48 57 = digB x := by
  unfold inL digB
  rw [Int32.toInt_toInt64]
  rfl
def nmV (T : Nat → Nat) (n q : Nat) : Nat := if dgB T n q then (if dgB T n (q + 1) then (T q - 48) * 10 + T (q + 1) - 48 else T q - 48) else 0
def nmP (T : Nat → Nat) (n q : Nat) : Nat := if dgB T n q then (if dgB T n (q + 1) then q + 1 + 1 else q + 1) else q
theorem nmV_0 {T : Nat → Nat} {n q : Nat} (h : dgB T n q = false) : nmV T n q = 0 ∧ nmP T n q = q := by unfold nmV nmP; rw [h]; exact ⟨rfl, rfl⟩
theorem nmV_1 {T : Nat → Nat} {n q : Nat} (h : dgB T n q = true) (h1 : dgB T n (q + 1) = false) : nmV T n q = T q - 48 ∧ nmP T n q = q + 1 := by unfold nmV nmP; rw [h, h1]; exact ⟨rfl, rfl⟩
theorem nmV_2 {T : Nat → Nat} {n q : Nat} (h : dgB T n q = true) (h1 : dgB T n (q + 1) = true) : nmV T n q = (T q - 48) * 10 + T (q + 1) - 48 ∧ nmP T n q = q + 1 + 1 := by unfold nmV nmP; rw [h, h1]; exact ⟨rfl, rfl⟩
theorem nmV_b {T : Nat → Nat} {n q : Nat} (ht : tpOk T n) (hq : q ≤ n) : nmV T n q < 100 ∧ q ≤ nmP T n q ∧ nmP T n q ≤ n := by
  cases h : dgB T n q
  · rw [(nmV_0 h).1, (nmV_0 h).2]; omega
  · have h2 := dgB_t ht h
    cases h1 : dgB T n (q + 1)
    · rw [(nmV_1 h h1).1, (nmV_1 h h1).2]; omega
    · have h3 := dgB_t ht h1
      rw [(nmV_2 h h1).1, (nmV_2 h h1).2]; omega
def kcN (x : Int32) : Nat := (kindC x).toInt.toNat
theorem kcN_ok {x : Int32} (h : ¬ kindC x < 0) : kindC x = nI (kcN x) ∧ kcN x ≤ 4 := by
  unfold kcN
  unfold kindC at h ⊢
  by_cases h0 : x = nI 112
  · rw [if_pos h0]; decide
  · rw [if_neg h0] at h ⊢
    by_cases h1 : x = nI 108
    · rw [if_pos h1]; decide
    · rw [if_neg h1] at h ⊢
      by_cases h2 : x = nI 115
      · rw [if_pos h2]; decide
      · rw [if_neg h2] at h ⊢
        by_cases h3 : x = nI 119
        · rw [if_pos h3]; decide
        · rw [if_neg h3] at h ⊢
          by_cases h4 : x = nI 122
          · rw [if_pos h4]; decide
          · rw [if_neg h4] at h
            exact absurd h (by decide)
theorem kc_end : kindC (-1) < 0 := by decide
/-- the class's draft while it reads: place, size, honest, range, span, kinds, widths -/
abbrev PSt : Type := Nat × Nat × Nat × Nat × Nat × (Nat → Nat) × (Nat → Nat)
def pfI (q : Nat) : Int32 := (-20) - nI q
def pwS (T : Nat → Nat) (n : Nat) (ck : Bool) (u : PSt) : PSt × Int32 :=
  if kindC (lkI T n (skq T n u.1)) < 0 then ((skq T n u.1, u.2), pfI (skq T n u.1))
  else if dgB T n (skq T n (skq T n u.1 + 1)) = false then ((skq T n (skq T n u.1 + 1), u.2), pfI (skq T n (skq T n u.1 + 1)))
  else if mayB u.2.1 u.2.2.2.2.2.2 (nmV T n (skq T n (skq T n u.1 + 1))) = false then ((nmP T n (skq T n (skq T n u.1 + 1)), u.2), pfI (skq T n (skq T n u.1 + 1)))
  else ((nmP T n (skq T n (skq T n u.1 + 1)), u.2.1 + 1, if ck then u.2.2.1 else u.2.2.1 + 1, if ck then u.2.2.2.1 else u.2.2.2.1 * nmV T n (skq T n (skq T n u.1 + 1)), u.2.2.2.2.1 * nmV T n (skq T n (skq T n u.1 + 1)), uN u.2.2.2.2.2.1 u.2.1 (kcN (lkI T n (skq T n u.1))), uN u.2.2.2.2.2.2 u.2.1 (nmV T n (skq T n (skq T n u.1 + 1)))), 0)
def pgS (T : Nat → Nat) (n : Nat) (ck : Bool) : Nat → PSt → PSt × Int32
  | 0, u => (u, 0)
  | f + 1, u => if (pwS T n ck u).2 ≠ 0 ∨ f = 0 then pwS T n ck u
    else if lkI T n (skq T n (pwS T n ck u).1.1) = nI 44 then pgS T n ck f (skq T n (pwS T n ck u).1.1 + 1, (pwS T n ck u).1.2)
    else ((skq T n (pwS T n ck u).1.1, (pwS T n ck u).1.2), 0)
/-- what holds of the draft: the wheels told so far are good, the products are theirs -/
def pOk (n : Nat) (u : PSt) : Prop := u.1 ≤ n ∧ wOk u.2.1 u.2.2.2.2.2.1 u.2.2.2.2.2.2 ∧ u.2.2.1 ≤ u.2.1 ∧ u.2.2.2.1 = prW u.2.2.2.2.2.2 u.2.2.1 ∧ u.2.2.2.2.1 = prW u.2.2.2.2.2.2 u.2.1
theorem prW_cg {W V : Nat → Nat} : ∀ {k : Nat}, (∀ j, j < k → W j = V j) → prW W k = prW V k
  | 0, _ => rfl
  | k + 1, h => by rw [prW, prW, prW_cg (fun j hj => h j (by omega)), h k (by omega)]
theorem uN_at (g : Nat → Nat) (i x : Nat) : uN g i x i = x := if_pos rfl
theorem copB_all {W : Nat → Nat} {x : Nat} : ∀ {k : Nat}, copB W x k = true → ∀ j, j < k → Nat.gcd (W j) x = 1
  | 0, _, j, hj => absurd hj (Nat.not_lt_zero _)
  | k + 1, h, j, hj => by
    rw [copB, Bool.and_eq_true] at h
    rcases Nat.lt_or_ge j k with q | q
    · exact copB_all h.1 j q
    · rw [show j = k by omega]; exact of_decide_eq_true h.2
theorem wOk_add {k : Nat} {K W : Nat → Nat} {kd x : Nat} (h : wOk k K W) (hk : kd ≤ 4) (hx : mayB k W x = true) : wOk (k + 1) (uN K k kd) (uN W k x) := by
  unfold mayB at hx
  rw [Bool.and_eq_true] at hx
  have h1 := of_decide_eq_true hx.1
  have h2 := copB_all hx.2
  refine ⟨by omega, fun j hj => ?_, fun j hj => ?_, fun i j hi hj => ?_⟩
  · by_cases q : j = k
    · rw [q, uN_at]; exact hk
    · rw [uN_ne q]; exact h.2.1 j (by omega)
  · by_cases q : j = k
    · rw [q, uN_at]; omega
    · rw [uN_ne q]; exact h.2.2.1 j (by omega)
  · by_cases q : j = k
    · rw [q, uN_at, uN_ne (show i ≠ k by omega)]; exact h2 i (by omega)
    · rw [uN_ne q, uN_ne (show i ≠ k by omega)]; exact h.2.2.2 i j hi (by omega)
theorem prW_add {k h x : Nat} {W : Nat → Nat} (hh : h ≤ k) : prW (uN W k x) h = prW W h := prW_cg (fun j hj => uN_ne (by omega))
theorem prW_ads {k x : Nat} {W : Nat → Nat} : prW (uN W k x) (k + 1) = prW W k * x := by rw [prW, prW_add (Nat.le_refl _), uN_at]
theorem pwS_1 {T : Nat → Nat} {n : Nat} {ck : Bool} {u : PSt} (h : kindC (lkI T n (skq T n u.1)) < 0) : pwS T n ck u = ((skq T n u.1, u.2), pfI (skq T n u.1)) := by unfold pwS; rw [if_pos h]
theorem pwS_2 {T : Nat → Nat} {n : Nat} {ck : Bool} {u : PSt} (h : ¬ kindC (lkI T n (skq T n u.1)) < 0) (h2 : dgB T n (skq T n (skq T n u.1 + 1)) = false) : pwS T n ck u = ((skq T n (skq T n u.1 + 1), u.2), pfI (skq T n (skq T n u.1 + 1))) := by unfold pwS; rw [if_neg h, if_pos h2]
theorem pwS_3 {T : Nat → Nat} {n : Nat} {ck : Bool} {u : PSt} (h : ¬ kindC (lkI T n (skq T n u.1)) < 0) (h2 : dgB T n (skq T n (skq T n u.1 + 1)) = true) (h3 : mayB u.2.1 u.2.2.2.2.2.2 (nmV T n (skq T n (skq T n u.1 + 1))) = false) : pwS T n ck u = ((nmP T n (skq T n (skq T n u.1 + 1)), u.2), pfI (skq T n (skq T n u.1 + 1))) := by unfold pwS; rw [if_neg h, if_neg (by rw [h2]; decide), if_pos h3]
theorem pwS_4 {T : Nat → Nat} {n : Nat} {ck : Bool} {u : PSt} (h : ¬ kindC (lkI T n (skq T n u.1)) < 0) (h2 : dgB T n (skq T n (skq T n u.1 + 1)) = true) (h3 : mayB u.2.1 u.2.2.2.2.2.2 (nmV T n (skq T n (skq T n u.1 + 1))) = true) : pwS T n ck u = ((nmP T n (skq T n (skq T n u.1 + 1)), u.2.1 + 1, if ck then u.2.2.1 else u.2.2.1 + 1, if ck then u.2.2.2.1 else u.2.2.2.1 * nmV T n (skq T n (skq T n u.1 + 1)), u.2.2.2.2.1 * nmV T n (skq T n (skq T n u.1 + 1)), uN u.2.2.2.2.2.1 u.2.1 (kcN (lkI T n (skq T n u.1))), uN u.2.2.2.2.2.2 u.2.1 (nmV T n (skq T n (skq T n u.1 + 1)))), 0) := by unfold pwS; rw [if_neg h, if_neg (by rw [h2]; decide), if_neg (by rw [h3]; decide)]
theorem kc_lt {T : Nat → Nat} {n q : Nat} (h : ¬ kindC (lkI T n q) < 0) : q < n := by
  apply Decidable.byContradiction
  intro h1
  rw [lkI_f h1] at h
  exact h kc_end
theorem pfI_toInt {q : Nat} (h : q ≤ 40) : (pfI q).toInt = -20 - (q : Int) := by
  have hall : ∀ q : Fin 41, (pfI q.val).toInt = -20 - (q.val : Int) := by decide +kernel
  exact hall ⟨q, by omega⟩
theorem pfI_ne {q : Nat} (h : q ≤ 40) : pfI q ≠ 0 := fun e => by
  have := pfI_toInt h
  rw [e] at this
  have z : (0 : Int32).toInt = 0 := rfl
  omega
theorem pfI_lt {q : Nat} (h : q ≤ 40) : pfI q < 0 := by
  rw [Int32.lt_iff_toInt_lt, pfI_toInt h]
  have z : (0 : Int32).toInt = 0 := rfl
  omega
theorem pwS_ok {T : Nat → Nat} {n : Nat} {ck : Bool} {u : PSt} (ht : tpOk T n) (hu : pOk n u) (hc : ck = false → u.2.2.1 = u.2.1) : pOk n (pwS T n ck u).1 ∧ (ck = false → (pwS T n ck u).1.2.2.1 = (pwS T n ck u).1.2.1) ∧ ((pwS T n ck u).2 = 0 → (pwS T n ck u).1.2.1 = u.2.1 + 1) ∧ ((pwS T n ck u).2 ≠ 0 → (pwS T n ck u).1.2.1 = u.2.1) ∧ ((pwS T n ck u).2 ≠ 0 → (pwS T n ck u).2 < 0) := by
  have b1 := skq_b (T := T) hu.1
  have h40 := ht.1
  by_cases h : kindC (lkI T n (skq T n u.1)) < 0
  · rw [pwS_1 h]
    exact ⟨⟨b1.2, hu.2⟩, hc, fun q => absurd q (pfI_ne (by omega)), fun _ => rfl, fun _ => pfI_lt (by omega)⟩
  · have h0 := kc_lt h
    have b2 := skq_b (T := T) (show skq T n u.1 + 1 ≤ n by omega)
    cases h2 : dgB T n (skq T n (skq T n u.1 + 1))
    · rw [pwS_2 h h2]
      exact ⟨⟨b2.2, hu.2⟩, hc, fun q => absurd q (pfI_ne (by omega)), fun _ => rfl, fun _ => pfI_lt (by omega)⟩
    · have b3 := nmV_b ht b2.2
      cases h3 : mayB u.2.1 u.2.2.2.2.2.2 (nmV T n (skq T n (skq T n u.1 + 1)))
      · rw [pwS_3 h h2 h3]
        exact ⟨⟨b3.2.2, hu.2⟩, hc, fun q => absurd q (pfI_ne (by omega)), fun _ => rfl, fun _ => pfI_lt (by omega)⟩
      · rw [pwS_4 h h2 h3]
        refine ⟨⟨b3.2.2, wOk_add hu.2.1 (kcN_ok h).2 h3, ?_, ?_, ?_⟩, fun e => by subst e; exact congrArg (· + 1) (hc rfl), fun _ => rfl, fun q => absurd rfl q, fun q => absurd rfl q⟩
        · have := hu.2.2.1
          cases ck
          · exact Nat.succ_le_succ this
          · exact Nat.le_succ_of_le this
        · have e := hu.2.2.2.1
          cases ck
          · show u.2.2.2.1 * nmV T n (skq T n (skq T n u.1 + 1)) = prW (uN u.2.2.2.2.2.2 u.2.1 (nmV T n (skq T n (skq T n u.1 + 1)))) (u.2.2.1 + 1)
            have e2 := hc rfl
            rw [e, e2, prW_ads]
          · show u.2.2.2.1 = prW (uN u.2.2.2.2.2.2 u.2.1 _) u.2.2.1
            rw [prW_add hu.2.2.1, e]
        · show u.2.2.2.2.1 * nmV T n (skq T n (skq T n u.1 + 1)) = prW (uN u.2.2.2.2.2.2 u.2.1 (nmV T n (skq T n (skq T n u.1 + 1)))) (u.2.1 + 1)
          rw [prW_ads, hu.2.2.2.2]
theorem pgS_ok {T : Nat → Nat} {n : Nat} {ck : Bool} (ht : tpOk T n) : ∀ (f : Nat) (u : PSt), pOk n u → (ck = false → u.2.2.1 = u.2.1) → pOk n (pgS T n ck f u).1 ∧ (ck = false → (pgS T n ck f u).1.2.2.1 = (pgS T n ck f u).1.2.1) ∧ (pgS T n ck f u).1.2.1 ≤ u.2.1 + f ∧ ((pgS T n ck f u).2 ≠ 0 → (pgS T n ck f u).2 < 0)
  | 0, u, hu, hc => ⟨hu, hc, Nat.le_refl _, fun q => absurd rfl q⟩
  | f + 1, u, hu, hc => by
    obtain ⟨a1, a2, a3, a4, a5⟩ := pwS_ok (ck := ck) ht hu hc
    rw [pgS]
    by_cases h : (pwS T n ck u).2 ≠ 0 ∨ f = 0
    · rw [if_pos h]
      refine ⟨a1, a2, ?_, a5⟩
      by_cases q : (pwS T n ck u).2 = 0
      · rw [a3 q]; omega
      · rw [a4 q]; omega
    · rw [if_neg h]
      have h1 : (pwS T n ck u).2 = 0 := Decidable.byContradiction (fun q => h (Or.inl q))
      have b := skq_b (T := T) a1.1
      by_cases h2 : lkI T n (skq T n (pwS T n ck u).1.1) = nI 44
      · rw [if_pos h2]
        have b1 : skq T n (pwS T n ck u).1.1 < n := Decidable.byContradiction (fun q => by rw [lkI_f q] at h2; exact absurd h2 (by decide))
        have ih := pgS_ok ht f (skq T n (pwS T n ck u).1.1 + 1, (pwS T n ck u).1.2) ⟨b1, a1.2⟩ a2
        refine ⟨ih.1, ih.2.1, Nat.le_trans ih.2.2.1 ?_, ih.2.2.2⟩
        show (pwS T n ck u).1.2.1 + f ≤ u.2.1 + (f + 1)
        rw [a3 h1]; omega
      · rw [if_neg h2]
        refine ⟨⟨b.2, a1.2⟩, a2, ?_, fun q => absurd rfl q⟩
        show (pwS T n ck u).1.2.1 ≤ u.2.1 + (f + 1)
        rw [a3 h1]; omega
def pg1 (T : Nat → Nat) (n : Nat) (K W : Nat → Nat) : PSt × Int32 := pgS T n false 4 (0, 0, 0, 1, 1, K, W)
def pg2 (T : Nat → Nat) (n : Nat) (K W : Nat → Nat) : PSt × Int32 := pgS T n true 2 (skq T n (pg1 T n K W).1.1 + 1, (pg1 T n K W).1.2)
def psE (T : Nat → Nat) (n : Nat) (u : PSt) : PSt × Int32 := ((skq T n u.1, u.2), if lkI T n (skq T n u.1) = -1 then 0 else pfI (skq T n u.1))
def psS (T : Nat → Nat) (n : Nat) (K W : Nat → Nat) : PSt × Int32 := if (pg1 T n K W).2 ≠ 0 then pg1 T n K W else if lkI T n (skq T n (pg1 T n K W).1.1) = nI 59 then (if (pg2 T n K W).2 ≠ 0 then pg2 T n K W else psE T n (pg2 T n K W).1) else psE T n (skq T n (pg1 T n K W).1.1, (pg1 T n K W).1.2)
section PSS
variable {T : Nat → Nat} {n : Nat} {K W : Nat → Nat}
theorem psS_0 (h : (pg1 T n K W).2 ≠ 0) : psS T n K W = pg1 T n K W := if_pos h
theorem psS_1 (h : (pg1 T n K W).2 = 0) (h2 : lkI T n (skq T n (pg1 T n K W).1.1) = nI 59) (h3 : (pg2 T n K W).2 ≠ 0) : psS T n K W = pg2 T n K W := by unfold psS; rw [if_neg (fun q => q h), if_pos h2, if_pos h3]
theorem psS_2 (h : (pg1 T n K W).2 = 0) (h2 : lkI T n (skq T n (pg1 T n K W).1.1) = nI 59) (h3 : (pg2 T n K W).2 = 0) : psS T n K W = psE T n (pg2 T n K W).1 := by unfold psS; rw [if_neg (fun q => q h), if_pos h2, if_neg (fun q => q h3)]
theorem psS_3 (h : (pg1 T n K W).2 = 0) (h2 : ¬ lkI T n (skq T n (pg1 T n K W).1.1) = nI 59) : psS T n K W = psE T n (skq T n (pg1 T n K W).1.1, (pg1 T n K W).1.2) := by unfold psS; rw [if_neg (fun q => q h), if_neg h2]
theorem psE_0 {u : PSt} (h : lkI T n (skq T n u.1) = -1) : psE T n u = ((skq T n u.1, u.2), 0) := by unfold psE; rw [if_pos h]
theorem psE_1 {u : PSt} (h : ¬ lkI T n (skq T n u.1) = -1) : psE T n u = ((skq T n u.1, u.2), pfI (skq T n u.1)) := by unfold psE; rw [if_neg h]
theorem pg1_ok (ht : tpOk T n) : pOk n (pg1 T n K W).1 ∧ (pg1 T n K W).1.2.1 ≤ 4 ∧ ((pg1 T n K W).2 ≠ 0 → (pg1 T n K W).2 < 0) := by
  have := pgS_ok (ck := false) ht 4 (0, 0, 0, 1, 1, K, W) ⟨Nat.zero_le _, ⟨Nat.zero_le _, fun j hj => absurd hj (Nat.not_lt_zero _), fun j hj => absurd hj (Nat.not_lt_zero _), fun i j _ hj => absurd hj (Nat.not_lt_zero _)⟩, Nat.le_refl _, rfl, rfl⟩ (fun _ => rfl)
  exact ⟨this.1, this.2.2.1, this.2.2.2⟩
theorem pg2_ok (ht : tpOk T n) (h2 : lkI T n (skq T n (pg1 T n K W).1.1) = nI 59) : pOk n (pg2 T n K W).1 ∧ (pg2 T n K W).1.2.1 ≤ 6 ∧ ((pg2 T n K W).2 ≠ 0 → (pg2 T n K W).2 < 0) := by
  have h1 := pg1_ok (K := K) (W := W) ht
  have b1 : skq T n (pg1 T n K W).1.1 < n := Decidable.byContradiction (fun q => by rw [lkI_f q] at h2; exact absurd h2 (by decide))
  have := pgS_ok (ck := true) ht 2 (skq T n (pg1 T n K W).1.1 + 1, (pg1 T n K W).1.2) ⟨b1, h1.1.2⟩ (fun q => absurd q (by decide))
  exact ⟨this.1, Nat.le_trans this.2.2.1 (by show (pg1 T n K W).1.2.1 + 2 ≤ 6; omega), this.2.2.2⟩
theorem psE_ok {u : PSt} (ht : tpOk T n) (hu : pOk n u) : pOk n (psE T n u).1 ∧ ((psE T n u).2 ≠ 0 → (psE T n u).2 < 0) := by
  have b := skq_b (T := T) hu.1
  have := ht.1
  by_cases h : lkI T n (skq T n u.1) = -1
  · rw [psE_0 h]; exact ⟨⟨b.2, hu.2⟩, fun q => absurd rfl q⟩
  · rw [psE_1 h]; exact ⟨⟨b.2, hu.2⟩, fun _ => pfI_lt (by omega)⟩
theorem psS_ok (ht : tpOk T n) : pOk n (psS T n K W).1 ∧ ((psS T n K W).2 ≠ 0 → (psS T n K W).2 < 0) := by
  have h1 := pg1_ok (K := K) (W := W) ht
  by_cases a1 : (pg1 T n K W).2 = 0
  · by_cases a2 : lkI T n (skq T n (pg1 T n K W).1.1) = nI 59
    · have h2 := pg2_ok ht a2
      by_cases a3 : (pg2 T n K W).2 = 0
      · rw [psS_2 a1 a2 a3]; exact psE_ok ht h2.1
      · rw [psS_1 a1 a2 a3]; exact ⟨h2.1, h2.2.2⟩
    · rw [psS_3 a1 a2]; exact psE_ok ht ⟨(skq_b (T := T) h1.1.1).2, h1.1.2⟩
  · rw [psS_0 a1]; exact ⟨h1.1, h1.2.2⟩
end PSS
/-- the reference while it reads: at, start, number, readMany, readHonest, read -/
abbrev MSt : Type := Nat × Nat × Nat × Nat × Nat × (Nat → Nat)
def rdW (R : Nat → Nat) : Nat → Nat := fun j => R (2 * j + 1)
def rdK (R : Nat → Nat) : Nat → Nat := fun j => R (2 * j)
def twS (T : Nat → Nat) (n : Nat) (u : MSt) : MSt × Bool :=
  if kindC (lkI T n (skq T n u.1)) < 0 then ((skq T n u.1, skq T n u.1, u.2.2), false)
  else if dgB T n (skq T n (skq T n u.1 + 1)) = false ∨ mayB u.2.2.2.1 (rdW u.2.2.2.2.2) (nmV T n (skq T n (skq T n u.1 + 1))) = false then ((nmP T n (skq T n (skq T n u.1 + 1)), skq T n (skq T n u.1 + 1), nmV T n (skq T n (skq T n u.1 + 1)), u.2.2.2), false)
  else if dgB T n (nmP T n (skq T n (skq T n u.1 + 1))) = true then ((nmP T n (skq T n (skq T n u.1 + 1)), nmP T n (skq T n (skq T n u.1 + 1)), nmV T n (skq T n (skq T n u.1 + 1)), u.2.2.2), false)
  else ((nmP T n (skq T n (skq T n u.1 + 1)), skq T n (skq T n u.1 + 1), nmV T n (skq T n (skq T n u.1 + 1)), u.2.2.2.1 + 1, u.2.2.2.2.1, uN (uN u.2.2.2.2.2 (2 * u.2.2.2.1) (kcN (lkI T n (skq T n u.1)))) (2 * u.2.2.2.1 + 1) (nmV T n (skq T n (skq T n u.1 + 1)))), true)
section TWS
variable {T : Nat → Nat} {n : Nat} {u : MSt}
theorem twS_1 (h : kindC (lkI T n (skq T n u.1)) < 0) : twS T n u = ((skq T n u.1, skq T n u.1, u.2.2), false) := by unfold twS; rw [if_pos h]
theorem twS_2 (h : ¬ kindC (lkI T n (skq T n u.1)) < 0) (h2 : dgB T n (skq T n (skq T n u.1 + 1)) = false ∨ mayB u.2.2.2.1 (rdW u.2.2.2.2.2) (nmV T n (skq T n (skq T n u.1 + 1))) = false) : twS T n u = ((nmP T n (skq T n (skq T n u.1 + 1)), skq T n (skq T n u.1 + 1), nmV T n (skq T n (skq T n u.1 + 1)), u.2.2.2), false) := by unfold twS; rw [if_neg h, if_pos h2]
theorem twS_3 (h : ¬ kindC (lkI T n (skq T n u.1)) < 0) (h2 : dgB T n (skq T n (skq T n u.1 + 1)) = true) (h3 : mayB u.2.2.2.1 (rdW u.2.2.2.2.2) (nmV T n (skq T n (skq T n u.1 + 1))) = true) (h4 : dgB T n (nmP T n (skq T n (skq T n u.1 + 1))) = true) : twS T n u = ((nmP T n (skq T n (skq T n u.1 + 1)), nmP T n (skq T n (skq T n u.1 + 1)), nmV T n (skq T n (skq T n u.1 + 1)), u.2.2.2), false) := by unfold twS; rw [if_neg h, if_neg (by rw [h2, h3]; decide), if_pos h4]
theorem twS_4 (h : ¬ kindC (lkI T n (skq T n u.1)) < 0) (h2 : dgB T n (skq T n (skq T n u.1 + 1)) = true) (h3 : mayB u.2.2.2.1 (rdW u.2.2.2.2.2) (nmV T n (skq T n (skq T n u.1 + 1))) = true) (h4 : dgB T n (nmP T n (skq T n (skq T n u.1 + 1))) = false) : twS T n u = ((nmP T n (skq T n (skq T n u.1 + 1)), skq T n (skq T n u.1 + 1), nmV T n (skq T n (skq T n u.1 + 1)), u.2.2.2.1 + 1, u.2.2.2.2.1, uN (uN u.2.2.2.2.2 (2 * u.2.2.2.1) (kcN (lkI T n (skq T n u.1)))) (2 * u.2.2.2.1 + 1) (nmV T n (skq T n (skq T n u.1 + 1)))), true) := by unfold twS; rw [if_neg h, if_neg (by rw [h2, h3]; decide), if_neg (by rw [h4]; decide)]
end TWS
def qOk (n : Nat) (u : MSt) : Prop := u.1 ≤ n ∧ wOk u.2.2.2.1 (rdK u.2.2.2.2.2) (rdW u.2.2.2.2.2)
theorem rdK_u (R : Nat → Nat) (k x y : Nat) : rdK (uN (uN R (2 * k) x) (2 * k + 1) y) = uN (rdK R) k x := by
  funext j
  unfold rdK uN
  by_cases h : j = k
  · rw [if_neg (by omega), if_pos (by omega), if_pos h]
  · rw [if_neg (by omega), if_neg (by omega), if_neg h]
theorem rdW_u (R : Nat → Nat) (k x y : Nat) : rdW (uN (uN R (2 * k) x) (2 * k + 1) y) = uN (rdW R) k y := by
  funext j
  unfold rdW uN
  by_cases h : j = k
  · rw [if_pos (by omega), if_pos h]
  · rw [if_neg (by omega), if_neg (by omega), if_neg h]
theorem twS_ok {T : Nat → Nat} {n : Nat} {u : MSt} (ht : tpOk T n) (hu : qOk n u) : qOk n (twS T n u).1 ∧ ((twS T n u).2 = true → (twS T n u).1.2.2.2.1 = u.2.2.2.1 + 1) ∧ (twS T n u).1.2.2.2.2.1 = u.2.2.2.2.1 ∧ (twS T n u).1.2.1 ≤ n := by
  have b1 := skq_b (T := T) hu.1
  have h40 := ht.1
  by_cases h : kindC (lkI T n (skq T n u.1)) < 0
  · rw [twS_1 h]
    exact ⟨⟨b1.2, hu.2⟩, fun q => absurd q Bool.false_ne_true, rfl, b1.2⟩
  · have h0 := kc_lt h
    have b2 := skq_b (T := T) (show skq T n u.1 + 1 ≤ n by omega)
    have b3 := nmV_b ht b2.2
    cases h2 : dgB T n (skq T n (skq T n u.1 + 1))
    · rw [twS_2 h (Or.inl h2)]
      exact ⟨⟨b3.2.2, hu.2⟩, fun q => absurd q Bool.false_ne_true, rfl, b2.2⟩
    · cases h3 : mayB u.2.2.2.1 (rdW u.2.2.2.2.2) (nmV T n (skq T n (skq T n u.1 + 1)))
      · rw [twS_2 h (Or.inr h3)]
        exact ⟨⟨b3.2.2, hu.2⟩, fun q => absurd q Bool.false_ne_true, rfl, b2.2⟩
      · cases h4 : dgB T n (nmP T n (skq T n (skq T n u.1 + 1)))
        · rw [twS_4 h h2 h3 h4]
          refine ⟨⟨b3.2.2, ?_⟩, fun _ => rfl, rfl, b2.2⟩
          show wOk (u.2.2.2.1 + 1) (rdK _) (rdW _)
          rw [rdK_u, rdW_u]
          exact wOk_add hu.2 (kcN_ok h).2 h3
        · rw [twS_3 h h2 h3 h4]
          exact ⟨⟨b3.2.2, hu.2⟩, fun q => absurd q Bool.false_ne_true, rfl, b3.2.2⟩
def mrB (T : Nat → Nat) (n : Nat) (ck : Bool) (k h q : Nat) : Bool := decide (lkI T n q = nI 44 ∧ (if ck then k - h < 2 else h < 4))
def tnB (T : Nat → Nat) (n : Nat) (ck : Bool) (q : Nat) : Bool := decide (lkI T n q = nI 59 ∧ ck = false)
/-- the reference behind a good wheel, blanks skipped -/
def aft (T : Nat → Nat) (n : Nat) (ck : Bool) (u : MSt) : MSt := (skq T n u.1, skq T n u.1, u.2.2.1, u.2.2.2.1, u.2.2.2.2.1 + (if ck then 0 else 1), u.2.2.2.2.2)
def rdL (T : Nat → Nat) (n : Nat) : Nat → MSt → Bool → MSt × Bool
  | 0, u, _ => (u, false)
  | f + 1, u, ck => if (twS T n u).2 = false then twS T n u
    else if lkI T n (aft T n ck (twS T n u).1).1 < 0 then (aft T n ck (twS T n u).1, true)
    else if mrB T n ck (aft T n ck (twS T n u).1).2.2.2.1 (aft T n ck (twS T n u).1).2.2.2.2.1 (aft T n ck (twS T n u).1).1 = false ∧ tnB T n ck (aft T n ck (twS T n u).1).1 = false then (aft T n ck (twS T n u).1, false)
    else rdL T n f ((aft T n ck (twS T n u).1).1 + 1, (aft T n ck (twS T n u).1).2) (ck || tnB T n ck (aft T n ck (twS T n u).1).1)
theorem lkI_neg {T : Nat → Nat} {n q : Nat} (ht : tpOk T n) : lkI T n q < 0 ↔ ¬ q < n := by
  constructor
  · intro h h1
    rw [lkI_t h1] at h
    have := ht.2 q h1
    rw [Int32.lt_iff_toInt_lt, nI_toInt (by omega)] at h
    have z : (0 : Int32).toInt = 0 := rfl
    omega
  · intro h
    rw [lkI_f h]; decide
/-- what holds as the reference goes on: how many of each there may be -/
def qCk (ck : Bool) (u : MSt) : Prop := u.2.2.2.2.1 ≤ u.2.2.2.1 ∧ (if ck then u.2.2.2.2.1 ≤ 4 ∧ u.2.2.2.1 ≤ u.2.2.2.2.1 + 1 else u.2.2.2.1 = u.2.2.2.2.1 ∧ u.2.2.2.2.1 ≤ 3)
theorem aft_ok {T : Nat → Nat} {n : Nat} {ck : Bool} {u : MSt} (ht : tpOk T n) (hu : qOk n u) (hc : qCk ck u) (h : (twS T n u).2 = true) : qOk n (aft T n ck (twS T n u).1) ∧ (aft T n ck (twS T n u).1).2.2.2.1 = u.2.2.2.1 + 1 ∧ (aft T n ck (twS T n u).1).2.2.2.2.1 = u.2.2.2.2.1 + (if ck then 0 else 1) := by
  obtain ⟨a1, a2, a3, a4⟩ := twS_ok ht hu
  refine ⟨⟨(skq_b a1.1).2, a1.2⟩, a2 h, ?_⟩
  show (twS T n u).1.2.2.2.2.1 + _ = _
  rw [a3]
theorem nxt_ok {T : Nat → Nat} {n : Nat} {ck : Bool} {u : MSt} (ht : tpOk T n) (hu : qOk n u) (hc : qCk ck u) (h : (twS T n u).2 = true) (h1 : ¬ lkI T n (aft T n ck (twS T n u).1).1 < 0) (h2 : ¬ (mrB T n ck (aft T n ck (twS T n u).1).2.2.2.1 (aft T n ck (twS T n u).1).2.2.2.2.1 (aft T n ck (twS T n u).1).1 = false ∧ tnB T n ck (aft T n ck (twS T n u).1).1 = false)) : qOk n ((aft T n ck (twS T n u).1).1 + 1, (aft T n ck (twS T n u).1).2) ∧ qCk (ck || tnB T n ck (aft T n ck (twS T n u).1).1) ((aft T n ck (twS T n u).1).1 + 1, (aft T n ck (twS T n u).1).2) := by
  obtain ⟨a1, a2, a3⟩ := aft_ok ht hu hc h
  have hl : (aft T n ck (twS T n u).1).1 < n := Decidable.byContradiction (fun q => h1 ((lkI_neg ht).mpr q))
  refine ⟨⟨hl, a1.2⟩, ?_⟩
  generalize aft T n ck (twS T n u).1 = v at *
  obtain ⟨c1, c2⟩ := hc
  show v.2.2.2.2.1 ≤ v.2.2.2.1 ∧ _
  rw [a2, a3]
  cases ck
  · rw [if_neg (by decide)] at c2
    simp only [Bool.false_eq_true, if_false] at *
    refine ⟨by omega, ?_⟩
    rw [Bool.false_or]
    cases ht2 : tnB T n false v.1
    · have hm : ¬ mrB T n false v.2.2.2.1 v.2.2.2.2.1 v.1 = false := fun q => h2 ⟨q, ht2⟩
      have hm2 := of_decide_eq_true ((Bool.not_eq_false _).mp hm)
      have h4 := hm2.2
      rw [if_neg (by decide)] at h4
      rw [if_neg (by decide)]
      omega
    · rw [if_pos rfl]
      omega
  · rw [if_pos rfl] at c2
    simp only [if_true] at *
    refine ⟨by omega, ?_⟩
    have ht2 : tnB T n true v.1 = false := decide_eq_false (fun q => absurd q.2 (by decide))
    have hm : ¬ mrB T n true v.2.2.2.1 v.2.2.2.2.1 v.1 = false := fun q => h2 ⟨q, ht2⟩
    have hm2 := of_decide_eq_true ((Bool.not_eq_false _).mp hm)
    have h4 := hm2.2
    rw [if_pos rfl] at h4
    show (if (true || _) = true then _ else _)
    rw [Bool.true_or, if_pos rfl]
    omega
theorem pg1_d (T : Nat → Nat) (n : Nat) (K W : Nat → Nat) : pgS T n false 4 (0, 0, 0, 1, 1, K, W) = pg1 T n K W := rfl
theorem pg2_d (T : Nat → Nat) (n : Nat) (K W : Nat → Nat) : pgS T n true 2 (skq T n (pg1 T n K W).1.1 + 1, (pg1 T n K W).1.2) = pg2 T n K W := rfl
section PSG
variable {T : Nat → Nat} {n : Nat} {K W : Nat → Nat} {g1 g2 : PSt × Int32}
theorem pg2_k (ht : tpOk T n) (h1 : pOk n g1.1 ∧ g1.1.2.1 ≤ 4 ∧ (g1.2 ≠ 0 → g1.2 < 0)) (h2 : lkI T n (skq T n g1.1.1) = nI 59) (e2 : pgS T n true 2 (skq T n g1.1.1 + 1, g1.1.2) = g2) : pOk n g2.1 ∧ g2.1.2.1 ≤ 6 ∧ (g2.2 ≠ 0 → g2.2 < 0) := by
  have b1 : skq T n g1.1.1 < n := Decidable.byContradiction (fun q => by rw [lkI_f q] at h2; exact absurd h2 (by decide))
  have := pgS_ok (ck := true) ht 2 (skq T n g1.1.1 + 1, g1.1.2) ⟨b1, h1.1.2⟩ (fun q => absurd q (by decide))
  rw [e2] at this
  exact ⟨this.1, Nat.le_trans this.2.2.1 (by show g1.1.2.1 + 2 ≤ 6; omega), this.2.2.2⟩
theorem psG_0 (e : pg1 T n K W = g1) (h : g1.2 ≠ 0) : psS T n K W = g1 := by subst e; exact psS_0 h
theorem psG_1 (e : pg1 T n K W = g1) (h : g1.2 = 0) (h2 : lkI T n (skq T n g1.1.1) = nI 59) (e2 : pgS T n true 2 (skq T n g1.1.1 + 1, g1.1.2) = g2) (h3 : g2.2 ≠ 0) : psS T n K W = g2 := by subst e; rw [pg2_d] at e2; subst e2; exact psS_1 h h2 h3
theorem psG_2 (e : pg1 T n K W = g1) (h : g1.2 = 0) (h2 : lkI T n (skq T n g1.1.1) = nI 59) (e2 : pgS T n true 2 (skq T n g1.1.1 + 1, g1.1.2) = g2) (h3 : g2.2 = 0) : psS T n K W = psE T n g2.1 := by subst e; rw [pg2_d] at e2; subst e2; exact psS_2 h h2 h3
theorem psG_3 (e : pg1 T n K W = g1) (h : g1.2 = 0) (h2 : ¬ lkI T n (skq T n g1.1.1) = nI 59) : psS T n K W = psE T n (skq T n g1.1.1, g1.1.2) := by subst e; exact psS_3 h h2
end PSG
