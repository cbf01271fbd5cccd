def dStep (n : Nat) (K W : Nat → Nat) (T : Nat × Nat × Nat × (Nat → Nat) × (Nat → Nat) × (Nat → Nat)) : Nat × Nat × Nat × (Nat → Nat) × (Nat → Nat) × (Nat → Nat) := (lcg T.1, min (T.2.1 + 1) 8, (T.2.2.1 + 1) % 8, dfR n K W T.2.2.2.1 (lcg T.1), cpN T.2.2.2.1 T.2.2.2.2.1 0 (T.2.2.1 * 24) 24, uN T.2.2.2.2.2 T.2.2.1 T.1)
def dIt (n : Nat) (K W : Nat → Nat) (T : Nat × Nat × Nat × (Nat → Nat) × (Nat → Nat) × (Nat → Nat)) : Nat → Nat × Nat × Nat × (Nat → Nat) × (Nat → Nat) × (Nat → Nat) | 0 => T | t + 1 => dStep n K W (dIt n K W T t)
theorem rOk_df {n : Nat} {K W R : Nat → Nat} (ok : wOk n K W) (h : rOk n W R) (d : Nat) : rOk n W (dfR n K W R d) := by
  have h1 := rOk_rw (r := d / 65536 % 4) h ok.1 (adF_lt (K := K) h (r := d / 65536 % 4) (o := d / 128 % 4) (by omega) (by omega))
  unfold dfR
  split
  · next q =>
    have hk := Nat.mod_lt (d / 256) q.1
    have hw := ok.2.2.1 _ hk
    have h6 := ok.1
    exact rOk_u h1 h6 (by omega) (Nat.mod_lt _ (by omega))
  · exact h1
theorem dIt_ok {n : Nat} {K W : Nat → Nat} (ok : wOk n K W) {T : Nat × Nat × Nat × (Nat → Nat) × (Nat → Nat) × (Nat → Nat)} (h : rOk n W T.2.2.2.1) (hk : T.2.1 ≤ 8) (hx : T.2.2.1 < 8) : ∀ t, rOk n W (dIt n K W T t).2.2.2.1 ∧ (dIt n K W T t).2.1 ≤ 8 ∧ (dIt n K W T t).2.2.1 < 8
  | 0 => ⟨h, hk, hx⟩
  | t + 1 => by
    have ih := dIt_ok ok h hk hx t
    exact ⟨rOk_df ok ih.1 _, Nat.min_le_right _ _, Nat.mod_lt _ (by decide)⟩
def saF (sd : Nat → Nat) : Nat → Option Nat := fun i => some (sd i)
