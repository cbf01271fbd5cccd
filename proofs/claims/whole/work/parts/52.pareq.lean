/-! both sides read a tape alike -/
def psN (T : Nat → Nat) (n : Nat) (g : PSt × Int32) : PSt × Int32 := if g.2 ≠ 0 then g else psE T n g.1
def psM (T : Nat → Nat) (n : Nat) (g : PSt × Int32) : PSt × Int32 := if g.2 ≠ 0 then g else if lkI T n (skq T n g.1.1) = nI 59 then psN T n (pgS T n true 2 (skq T n g.1.1 + 1, g.1.2)) else psE T n (skq T n g.1.1, g.1.2)
theorem psS_M (T : Nat → Nat) (n : Nat) (K W : Nat → Nat) : psS T n K W = psM T n (pgS T n false 4 (0, 0, 0, 1, 1, K, W)) := by
  rw [pg1_d]
  unfold psS psM psN
  rw [pg2_d]
def alW (k : Nat) (K W R : Nat → Nat) : Prop := ∀ j, j < k → K j = rdK R j ∧ W j = rdW R j
def alk (u : PSt) (v : MSt) : Prop := u.1 = v.1 ∧ u.2.1 = v.2.2.2.1 ∧ u.2.2.1 = v.2.2.2.2.1 ∧ alW u.2.1 u.2.2.2.2.2.1 u.2.2.2.2.2.2 v.2.2.2.2.2
def sam (g : PSt × Int32) (z : MSt × Bool) : Prop := (g.2 = 0 ∧ z.2 = true ∧ g.1.2.1 = z.1.2.2.2.1 ∧ g.1.2.2.1 = z.1.2.2.2.2.1 ∧ alW g.1.2.1 g.1.2.2.2.2.2.1 g.1.2.2.2.2.2.2 z.1.2.2.2.2.2) ∨ (g.2 ≠ 0 ∧ z.2 = false ∧ g.2 = pfI z.1.2.1)
theorem copB_cg {W V : Nat → Nat} {x : Nat} : ∀ {k : Nat}, (∀ j, j < k → W j = V j) → copB W x k = copB V x k
  | 0, _ => rfl
  | k + 1, h => by rw [copB, copB, copB_cg (fun j hj => h j (by omega)), h k (by omega)]
theorem mayB_cg {W V : Nat → Nat} {k x : Nat} (h : ∀ j, j < k → W j = V j) : mayB k W x = mayB k V x := by unfold mayB; rw [copB_cg h]
theorem alW_add {k : Nat} {K W R : Nat → Nat} (h : alW k K W R) (kd x : Nat) : alW (k + 1) (uN K k kd) (uN W k x) (uN (uN R (2 * k) kd) (2 * k + 1) x) := fun j hj => by
  rw [rdK_u, rdW_u]
  by_cases q : j = k
  · subst q; rw [uN_eq, uN_eq, uN_eq, uN_eq]; exact ⟨rfl, rfl⟩
  · rw [uN_ne q, uN_ne q, uN_ne q, uN_ne q]; exact h j (by omega)
section PEQ
variable {T : Nat → Nat} {n : Nat}
/-- what the class answers behind the last wheel of all -/
def fnA (T : Nat → Nat) (n a : Nat) (w : Nat × Nat × Nat × Nat × (Nat → Nat) × (Nat → Nat)) : PSt × Int32 := ((a, w), if lkI T n a = -1 then 0 else pfI a)
theorem psE_fn (T : Nat → Nat) (n : Nat) (u : PSt) : psE T n u = fnA T n (skq T n u.1) u.2 := rfl
theorem psN_fn {g : PSt × Int32} (h0 : g.2 = 0) : psN T n g = fnA T n (skq T n g.1.1) g.1.2 := by
  unfold psN
  rw [if_neg (fun z => z h0), psE_fn]
theorem psN_sk {a : Nat} {w : Nat × Nat × Nat × Nat × (Nat → Nat) × (Nat → Nat)} : psN T n ((skq T n a, w), 0) = fnA T n (skq T n a) w := by
  rw [psN_fn rfl]
  show fnA T n (skq T n (skq T n a)) w = _
  rw [skq_skq]
theorem psM_fn {g : PSt × Int32} (h0 : g.2 = 0) : psM T n g = (if lkI T n (skq T n g.1.1) = nI 59 then psN T n (pgS T n true 2 (skq T n g.1.1 + 1, g.1.2)) else fnA T n (skq T n g.1.1) g.1.2) := by
  unfold psM
  rw [if_neg (fun z => z h0), psE_fn]
  show (if _ then _ else fnA T n (skq T n (skq T n g.1.1)) g.1.2) = _
  rw [skq_skq]
theorem psM_sk {a : Nat} {w : Nat × Nat × Nat × Nat × (Nat → Nat) × (Nat → Nat)} : psM T n ((skq T n a, w), 0) = (if lkI T n (skq T n a) = nI 59 then psN T n (pgS T n true 2 (skq T n a + 1, w)) else fnA T n (skq T n a) w) := by
  rw [psM_fn rfl]
  show (if lkI T n (skq T n (skq T n a)) = nI 59 then psN T n (pgS T n true 2 (skq T n (skq T n a) + 1, w)) else fnA T n (skq T n (skq T n a)) w) = _
  rw [skq_skq]
theorem grp0 (ck : Bool) (u : PSt) : pgS T n ck (0 + 1) u = pwS T n ck u := by rw [pgS, if_pos (Or.inr rfl)]
theorem grp1 {ck : Bool} {u : PSt} {f : Nat} (h0 : (pwS T n ck u).2 = 0) (h : lkI T n (skq T n (pwS T n ck u).1.1) ≠ nI 44) (hf : f ≠ 0) : pgS T n ck (f + 1) u = ((skq T n (pwS T n ck u).1.1, (pwS T n ck u).1.2), 0) := by
  rw [pgS, if_neg (fun z => Or.elim z (fun y => y h0) hf), if_neg h]
theorem endN {u : PSt} {f : Nat} (h0 : (pwS T n true u).2 = 0) (h : lkI T n (skq T n (pwS T n true u).1.1) ≠ nI 44 ∨ f = 0) : psN T n (pgS T n true (f + 1) u) = fnA T n (skq T n (pwS T n true u).1.1) (pwS T n true u).1.2 := by
  by_cases q : f = 0
  · subst q
    rw [grp0, psN_fn h0]
  · rw [grp1 h0 (h.resolve_right q) q, psN_sk]
theorem endM {u : PSt} {f : Nat} (h0 : (pwS T n false u).2 = 0) (h : lkI T n (skq T n (pwS T n false u).1.1) ≠ nI 44 ∨ f = 0) : psM T n (pgS T n false (f + 1) u) = (if lkI T n (skq T n (pwS T n false u).1.1) = nI 59 then psN T n (pgS T n true 2 (skq T n (pwS T n false u).1.1 + 1, (pwS T n false u).1.2)) else fnA T n (skq T n (pwS T n false u).1.1) (pwS T n false u).1.2) := by
  by_cases q : f = 0
  · subst q
    rw [grp0, psM_fn h0]
  · rw [grp1 h0 (h.resolve_right q) q, psM_sk]
theorem nxtG {ck : Bool} {u : PSt} {f : Nat} (h0 : (pwS T n ck u).2 = 0) (h : lkI T n (skq T n (pwS T n ck u).1.1) = nI 44) (hf : f ≠ 0) : pgS T n ck (f + 1) u = pgS T n ck f (skq T n (pwS T n ck u).1.1 + 1, (pwS T n ck u).1.2) := by
  rw [pgS, if_neg (fun z => Or.elim z (fun y => y h0) hf), if_pos h]
theorem badG {ck : Bool} {u : PSt} {f : Nat} (h0 : (pwS T n ck u).2 ≠ 0) : pgS T n ck (f + 1) u = pwS T n ck u := by rw [pgS, if_pos (Or.inl h0)]
/-- a wheel: both refuse at the same place; or the reference refuses a third digit, at which the class stands; or both take it -/
theorem whl (ht : tpOk T n) {ck : Bool} {u : PSt} {v : MSt} (hu : pOk n u) (hv : qOk n v) (ha : alk u v) : ((pwS T n ck u).2 ≠ 0 ∧ (twS T n v).2 = false ∧ (pwS T n ck u).2 = pfI (twS T n v).1.2.1) ∨ ((pwS T n ck u).2 = 0 ∧ (twS T n v).2 = false ∧ (twS T n v).1.2.1 = (pwS T n ck u).1.1 ∧ dgB T n (pwS T n ck u).1.1 = true) ∨ ((pwS T n ck u).2 = 0 ∧ (twS T n v).2 = true ∧ (pwS T n ck u).1.1 = (twS T n v).1.1 ∧ (pwS T n ck u).1.2.1 = (twS T n v).1.2.2.2.1 ∧ (pwS T n ck u).1.2.2.1 = (twS T n v).1.2.2.2.2.1 + (if ck then 0 else 1) ∧ alW (pwS T n ck u).1.2.1 (pwS T n ck u).1.2.2.2.2.2.1 (pwS T n ck u).1.2.2.2.2.2.2 (twS T n v).1.2.2.2.2.2) := by
  obtain ⟨a1, a2, a3, a4⟩ := ha
  have h40 := ht.1
  have b1 := skq_b (T := T) hu.1
  by_cases h : kindC (lkI T n (skq T n u.1)) < 0
  · left
    have hb : kindC (lkI T n (skq T n v.1)) < 0 := by rw [← a1]; exact h
    rw [pwS_1 h, twS_1 hb]
    exact ⟨pfI_ne (by omega), rfl, by rw [← a1]⟩
  · have hb : ¬ kindC (lkI T n (skq T n v.1)) < 0 := by rw [← a1]; exact h
    have h0 := kc_lt h
    have b2 := skq_b (T := T) (show skq T n u.1 + 1 ≤ n by omega)
    cases h2 : dgB T n (skq T n (skq T n u.1 + 1))
    · left
      rw [pwS_2 h h2, twS_2 hb (Or.inl (by rw [← a1]; exact h2))]
      exact ⟨pfI_ne (by omega), rfl, by rw [← a1]⟩
    · have hm : mayB v.2.2.2.1 (rdW v.2.2.2.2.2) (nmV T n (skq T n (skq T n v.1 + 1))) = mayB u.2.1 u.2.2.2.2.2.2 (nmV T n (skq T n (skq T n u.1 + 1))) := by
        rw [← a1, ← a2]
        exact mayB_cg (fun j hj => (a4 j hj).2.symm)
      cases h3 : mayB u.2.1 u.2.2.2.2.2.2 (nmV T n (skq T n (skq T n u.1 + 1)))
      · left
        rw [pwS_3 h h2 h3, twS_2 hb (Or.inr (hm.trans h3))]
        exact ⟨pfI_ne (by omega), rfl, by rw [← a1]⟩
      · right
        have h2b : dgB T n (skq T n (skq T n v.1 + 1)) = true := by rw [← a1]; exact h2
        cases h4 : dgB T n (nmP T n (skq T n (skq T n u.1 + 1)))
        · right
          rw [pwS_4 h h2 h3, twS_4 hb h2b (hm.trans h3) (by rw [← a1]; exact h4)]
          refine ⟨rfl, rfl, by rw [← a1], ?_, ?_, ?_⟩
          · show u.2.1 + 1 = v.2.2.2.1 + 1
            rw [a2]
          · show (if ck = true then u.2.2.1 else u.2.2.1 + 1) = v.2.2.2.2.1 + (if ck = true then 0 else 1)
            rw [a3]
            cases ck <;> rfl
          · show alW (u.2.1 + 1) _ _ _
            rw [← a1, ← a2]
            exact alW_add a4 _ _
        · left
          rw [pwS_4 h h2 h3, twS_3 hb h2b (hm.trans h3) (by rw [← a1]; exact h4)]
          exact ⟨rfl, rfl, by rw [← a1], h4⟩
/-- a digit is no blank, no sign, no end -/
theorem dg_no (ht : tpOk T n) {q : Nat} (h : dgB T n q = true) : skq T n q = q ∧ lkI T n q ≠ nI 44 ∧ lkI T n q ≠ nI 59 ∧ lkI T n q ≠ -1 := by
  have h1 := dgB_t ht h
  have hne : ∀ x, x < 128 → (x < 48 ∨ 57 < x) → lkI T n q ≠ nI x := fun x hx h2 e => by
    rw [lkI_t h1.1] at e
    have := (nI_eq (by omega) (by omega)).mp e
    omega
  refine ⟨skq_n (fun z => by omega), hne 44 (by decide) (by decide), hne 59 (by decide) (by decide), fun e => ?_⟩
  rw [lkI_t h1.1] at e
  have := congrArg Int32.toInt e
  rw [nI_toInt (by omega)] at this
  have z : (-1 : Int32).toInt = -1 := rfl
  omega
theorem fn_bad {a : Nat} {w : Nat × Nat × Nat × Nat × (Nat → Nat) × (Nat → Nat)} {z : MSt × Bool} (ha : a ≤ 40) (h : lkI T n a ≠ -1) (h1 : z.2 = false) (h2 : z.1.2.1 = a) : sam (fnA T n a w) z := by
  right
  have e : (fnA T n a w).2 = pfI a := if_neg h
  rw [e]
  exact ⟨pfI_ne ha, h1, by rw [h2]⟩
theorem lk_m1 (ht : tpOk T n) {q : Nat} : lkI T n q = -1 ↔ lkI T n q < 0 := by
  rw [lkI_neg ht]
  constructor
  · intro h h1
    rw [lkI_t h1] at h
    have := ht.2 q h1
    have e := congrArg Int32.toInt h
    rw [nI_toInt (by omega)] at e
    have z : (-1 : Int32).toInt = -1 := rfl
    omega
  · intro h; exact lkI_f h
theorem rdL_b {F : Nat} {v : MSt} {ck : Bool} (h : (twS T n v).2 = false) : rdL T n (F + 1) v ck = twS T n v := by rw [rdL, if_pos h]
/-- behind a wheel that both took: alike again, the blanks skipped -/
theorem whl_a {ck : Bool} {u : PSt} {v : MSt} (h1 : (pwS T n ck u).1.1 = (twS T n v).1.1) (h2 : (pwS T n ck u).1.2.1 = (twS T n v).1.2.2.2.1) (h3 : (pwS T n ck u).1.2.2.1 = (twS T n v).1.2.2.2.2.1 + (if ck then 0 else 1)) (h4 : alW (pwS T n ck u).1.2.1 (pwS T n ck u).1.2.2.2.2.2.1 (pwS T n ck u).1.2.2.2.2.2.2 (twS T n v).1.2.2.2.2.2) : alk (skq T n (pwS T n ck u).1.1 + 1, (pwS T n ck u).1.2) ((aft T n ck (twS T n v).1).1 + 1, (aft T n ck (twS T n v).1).2) := ⟨by show skq T n (pwS T n ck u).1.1 + 1 = skq T n (twS T n v).1.1 + 1; rw [h1], h2, h3, h4⟩
theorem eqT (ht : tpOk T n) : ∀ (f : Nat) (u : PSt) (v : MSt) (F : Nat), pOk n u → qOk n v → qCk true v → alk u v → f + 1 + (v.2.2.2.1 - v.2.2.2.2.1) = 2 → F + v.2.2.2.1 = 6 → sam (psN T n (pgS T n true (f + 1) u)) (rdL T n F v true) := by
  intro f
  induction f with
  | zero =>
    intro u v F hu hv hc ha hf hF
    have hk5 := qCk_5 hc
    obtain ⟨F, rfl⟩ : ∃ G, F = G + 1 := ⟨F - 1, by omega⟩
    have h40 := ht.1
    rcases whl ht (ck := true) hu hv ha with ⟨w1, w2, w3⟩ | ⟨w1, w2, w3, w4⟩ | ⟨w1, w2, w3, w4, w5, w6⟩
    · rw [badG w1, rdL_b w2]
      unfold psN
      rw [if_pos w1]
      exact Or.inr ⟨w1, w2, w3⟩
    · obtain ⟨d1, d2, d3, d4⟩ := dg_no ht w4
      have hp := (pwS_ok (ck := true) ht hu (fun z => absurd z (by decide))).1.1
      rw [endN w1 (Or.inr rfl), rdL_b w2, d1]
      exact fn_bad (by omega) d4 w2 w3
    · obtain ⟨p1, p2, p3, p4, p5⟩ := pwS_ok (ck := true) ht hu (fun z => absurd z (by decide))
      have hb := skq_b (T := T) p1.1
      have hf3 := aft_ok ht hv hc w2
      have ea : (aft T n true (twS T n v).1).1 = skq T n (pwS T n true u).1.1 := by rw [w3]; rfl
      rw [endN w1 (Or.inr rfl), rdL, if_neg (by rw [w2]; decide)]
      by_cases h1 : lkI T n (aft T n true (twS T n v).1).1 < 0
      · rw [if_pos h1]
        rw [ea] at h1
        refine Or.inl ⟨if_pos ((lk_m1 ht).mpr h1), rfl, w4, w5, w6⟩
      · rw [if_neg h1]
        have h1b : lkI T n (skq T n (pwS T n true u).1.1) ≠ -1 := fun z => h1 (by rw [ea]; exact (lk_m1 ht).mp z)
        have hm : mrB T n true (aft T n true (twS T n v).1).2.2.2.1 (aft T n true (twS T n v).1).2.2.2.2.1 (aft T n true (twS T n v).1).1 = false := decide_eq_false (fun z => by
          have z2 := z.2
          rw [if_pos rfl, hf3.2.1, hf3.2.2, if_pos rfl] at z2
          have := hc.1
          omega)
        have hn : tnB T n true (aft T n true (twS T n v).1).1 = false := decide_eq_false (fun z => absurd z.2 (by decide))
        rw [if_pos ⟨hm, hn⟩]
        exact fn_bad (by omega) h1b rfl ea
  | succ f ih =>
    intro u v F hu hv hc ha hf hF
    have hk5 := qCk_5 hc
    obtain ⟨F, rfl⟩ : ∃ G, F = G + 1 := ⟨F - 1, by omega⟩
    have h40 := ht.1
    rcases whl ht (ck := true) hu hv ha with ⟨w1, w2, w3⟩ | ⟨w1, w2, w3, w4⟩ | ⟨w1, w2, w3, w4, w5, w6⟩
    · rw [badG w1, rdL_b w2]
      unfold psN
      rw [if_pos w1]
      exact Or.inr ⟨w1, w2, w3⟩
    · obtain ⟨d1, d2, d3, d4⟩ := dg_no ht w4
      have hp := (pwS_ok (ck := true) ht hu (fun z => absurd z (by decide))).1.1
      rw [endN w1 (Or.inl (by rw [d1]; exact d2)), rdL_b w2, d1]
      exact fn_bad (by omega) d4 w2 w3
    · obtain ⟨p1, p2, p3, p4, p5⟩ := pwS_ok (ck := true) ht hu (fun z => absurd z (by decide))
      have hb := skq_b (T := T) p1.1
      have hf3 := aft_ok ht hv hc w2
      have ea : (aft T n true (twS T n v).1).1 = skq T n (pwS T n true u).1.1 := by rw [w3]; rfl
      have hn : tnB T n true (aft T n true (twS T n v).1).1 = false := decide_eq_false (fun z => absurd z.2 (by decide))
      by_cases h44 : lkI T n (skq T n (pwS T n true u).1.1) = nI 44
      · have hlt : skq T n (pwS T n true u).1.1 < n := Decidable.byContradiction (fun q => by rw [lkI_f q] at h44; exact absurd h44 (by decide))
        have h1 : ¬ lkI T n (aft T n true (twS T n v).1).1 < 0 := by rw [ea, lkI_neg ht]; exact fun z => z hlt
        have hm : mrB T n true (aft T n true (twS T n v).1).2.2.2.1 (aft T n true (twS T n v).1).2.2.2.2.1 (aft T n true (twS T n v).1).1 = true := decide_eq_true ⟨by rw [ea]; exact h44, by
          rw [if_pos rfl, hf3.2.1, hf3.2.2, if_pos rfl]
          have := hc.1
          omega⟩
        have hno : ¬ (mrB T n true (aft T n true (twS T n v).1).2.2.2.1 (aft T n true (twS T n v).1).2.2.2.2.1 (aft T n true (twS T n v).1).1 = false ∧ tnB T n true (aft T n true (twS T n v).1).1 = false) := fun z => by rw [hm] at z; exact absurd z.1 (by decide)
        have hx := nxt_ok ht hv hc w2 h1 hno
        rw [nxtG w1 h44 (Nat.succ_ne_zero f), rdL, if_neg (by rw [w2]; decide), if_neg h1, if_neg hno, hn, Bool.or_false]
        rw [hn, Bool.or_false] at hx
        refine ih _ _ F ⟨hlt, p1.2⟩ hx.1 hx.2 (whl_a w3 w4 w5 w6) ?_ ?_
        · show f + 1 + ((aft T n true (twS T n v).1).2.2.2.1 - (aft T n true (twS T n v).1).2.2.2.2.1) = 2
          rw [hf3.2.1, hf3.2.2, if_pos rfl]
          have := hc.1
          omega
        · show F + (aft T n true (twS T n v).1).2.2.2.1 = 6
          rw [hf3.2.1]
          omega
      · rw [endN w1 (Or.inl h44), rdL, if_neg (by rw [w2]; decide)]
        by_cases h1 : lkI T n (aft T n true (twS T n v).1).1 < 0
        · rw [if_pos h1]
          rw [ea] at h1
          refine Or.inl ⟨if_pos ((lk_m1 ht).mpr h1), rfl, w4, w5, w6⟩
        · rw [if_neg h1]
          have h1b : lkI T n (skq T n (pwS T n true u).1.1) ≠ -1 := fun z => h1 (by rw [ea]; exact (lk_m1 ht).mp z)
          have hm : mrB T n true (aft T n true (twS T n v).1).2.2.2.1 (aft T n true (twS T n v).1).2.2.2.2.1 (aft T n true (twS T n v).1).1 = false := decide_eq_false (fun z => by
            rw [ea] at z
            exact h44 z.1)
          rw [if_pos ⟨hm, hn⟩]
          exact fn_bad (by omega) h1b rfl ea
theorem eqF0 (ht : tpOk T n) {f : Nat} (ih : ∀ f2, f = f2 + 1 → ∀ (u : PSt) (v : MSt) (F : Nat), pOk n u → qOk n v → qCk false v → alk u v → f2 + 1 + v.2.2.2.2.1 = 4 → F + v.2.2.2.1 = 6 → sam (psM T n (pgS T n false (f2 + 1) u)) (rdL T n F v false)) (u : PSt) (v : MSt) (F : Nat) (hu : pOk n u) (hv : qOk n v) (hc : qCk false v) (ha : alk u v) (hf : f + 1 + v.2.2.2.2.1 = 4) (hF : F + v.2.2.2.1 = 6) : sam (psM T n (pgS T n false (f + 1) u)) (rdL T n F v false) := by
  have hk5 := qCk_5 hc
  have hkh : v.2.2.2.1 = v.2.2.2.2.1 ∧ v.2.2.2.2.1 ≤ 3 := by have := hc.2; rw [if_neg (by decide)] at this; exact this
  have huh : false = false → u.2.2.1 = u.2.1 := fun _ => by rw [ha.2.2.1, ha.2.1, hkh.1]
  obtain ⟨F, rfl⟩ : ∃ G, F = G + 1 := ⟨F - 1, by omega⟩
  have h40 := ht.1
  rcases whl ht (ck := false) hu hv ha with ⟨w1, w2, w3⟩ | ⟨w1, w2, w3, w4⟩ | ⟨w1, w2, w3, w4, w5, w6⟩
  · rw [badG w1, rdL_b w2]
    unfold psM
    rw [if_pos w1]
    exact Or.inr ⟨w1, w2, w3⟩
  · obtain ⟨d1, d2, d3, d4⟩ := dg_no ht w4
    have hp := (pwS_ok (ck := false) ht hu huh).1.1
    rw [endM w1 (Or.inl (by rw [d1]; exact d2)), rdL_b w2, d1, if_neg d3]
    exact fn_bad (by omega) d4 w2 w3
  · obtain ⟨p1, p2, p3, p4, p5⟩ := pwS_ok (ck := false) ht hu huh
    have hb := skq_b (T := T) p1.1
    have hf3 := aft_ok ht hv hc w2
    have e5 : (aft T n false (twS T n v).1).2.2.2.2.1 = v.2.2.2.2.1 + 1 := hf3.2.2
    have ea : (aft T n false (twS T n v).1).1 = skq T n (pwS T n false u).1.1 := by rw [w3]; rfl
    by_cases hg : lkI T n (skq T n (pwS T n false u).1.1) = nI 44 ∧ f ≠ 0
    · obtain ⟨h44, hf0⟩ := hg
      obtain ⟨f2, rfl⟩ : ∃ g, f = g + 1 := ⟨f - 1, by omega⟩
      have hlt : skq T n (pwS T n false u).1.1 < n := Decidable.byContradiction (fun q => by rw [lkI_f q] at h44; exact absurd h44 (by decide))
      have h1 : ¬ lkI T n (aft T n false (twS T n v).1).1 < 0 := by rw [ea, lkI_neg ht]; exact fun z => z hlt
      have hm : mrB T n false (aft T n false (twS T n v).1).2.2.2.1 (aft T n false (twS T n v).1).2.2.2.2.1 (aft T n false (twS T n v).1).1 = true := decide_eq_true ⟨by rw [ea]; exact h44, by
        rw [if_neg (by decide), e5]
        omega⟩
      have hno : ¬ (mrB T n false (aft T n false (twS T n v).1).2.2.2.1 (aft T n false (twS T n v).1).2.2.2.2.1 (aft T n false (twS T n v).1).1 = false ∧ tnB T n false (aft T n false (twS T n v).1).1 = false) := fun z => by rw [hm] at z; exact absurd z.1 (by decide)
      have hn : tnB T n false (aft T n false (twS T n v).1).1 = false := decide_eq_false (fun z => by
        rw [ea, h44] at z
        exact absurd z.1 (by decide))
      have hx := nxt_ok ht hv hc w2 h1 hno
      rw [nxtG w1 h44 (Nat.succ_ne_zero f2), rdL, if_neg (by rw [w2]; decide), if_neg h1, if_neg hno, hn, Bool.or_false]
      rw [hn, Bool.or_false] at hx
      refine ih f2 rfl _ _ F ⟨hlt, p1.2⟩ hx.1 hx.2 (whl_a w3 w4 w5 w6) ?_ ?_
      · show f2 + 1 + (aft T n false (twS T n v).1).2.2.2.2.1 = 4
        rw [e5]
        omega
      · show F + (aft T n false (twS T n v).1).2.2.2.1 = 6
        rw [hf3.2.1]
        omega
    · have hg2 : lkI T n (skq T n (pwS T n false u).1.1) ≠ nI 44 ∨ f = 0 := by
        by_cases q : f = 0
        · exact Or.inr q
        · exact Or.inl (fun z => hg ⟨z, q⟩)
      have hm : mrB T n false (aft T n false (twS T n v).1).2.2.2.1 (aft T n false (twS T n v).1).2.2.2.2.1 (aft T n false (twS T n v).1).1 = false := decide_eq_false (fun z => by
        rw [ea] at z
        rcases hg2 with q | q
        · exact q z.1
        · have z2 := z.2
          rw [if_neg (by decide), e5] at z2
          omega)
      rw [endM w1 hg2]
      by_cases h59 : lkI T n (skq T n (pwS T n false u).1.1) = nI 59
      · rw [if_pos h59]
        have hlt : skq T n (pwS T n false u).1.1 < n := Decidable.byContradiction (fun q => by rw [lkI_f q] at h59; exact absurd h59 (by decide))
        have h1 : ¬ lkI T n (aft T n false (twS T n v).1).1 < 0 := by rw [ea, lkI_neg ht]; exact fun z => z hlt
        have hn : tnB T n false (aft T n false (twS T n v).1).1 = true := decide_eq_true ⟨by rw [ea]; exact h59, rfl⟩
        have hno : ¬ (mrB T n false (aft T n false (twS T n v).1).2.2.2.1 (aft T n false (twS T n v).1).2.2.2.2.1 (aft T n false (twS T n v).1).1 = false ∧ tnB T n false (aft T n false (twS T n v).1).1 = false) := fun z => by rw [hn] at z; exact absurd z.2 (by decide)
        have hx := nxt_ok ht hv hc w2 h1 hno
        rw [rdL, if_neg (show ¬ (twS T n v).2 = false by rw [w2]; decide), if_neg h1, if_neg hno, hn, Bool.or_true]
        rw [hn, Bool.or_true] at hx
        refine eqT ht 1 _ _ F ⟨hlt, p1.2⟩ hx.1 hx.2 (whl_a w3 w4 w5 w6) ?_ ?_
        · show 1 + 1 + ((aft T n false (twS T n v).1).2.2.2.1 - (aft T n false (twS T n v).1).2.2.2.2.1) = 2
          rw [hf3.2.1, e5]
          omega
        · show F + (aft T n false (twS T n v).1).2.2.2.1 = 6
          rw [hf3.2.1]
          omega
      · rw [if_neg h59, rdL, if_neg (show ¬ (twS T n v).2 = false by rw [w2]; decide)]
        by_cases h1 : lkI T n (aft T n false (twS T n v).1).1 < 0
        · rw [if_pos h1]
          rw [ea] at h1
          refine Or.inl ⟨if_pos ((lk_m1 ht).mpr h1), rfl, w4, w5, w6⟩
        · rw [if_neg h1]
          have h1b : lkI T n (skq T n (pwS T n false u).1.1) ≠ -1 := fun z => h1 (by rw [ea]; exact (lk_m1 ht).mp z)
          have hn : tnB T n false (aft T n false (twS T n v).1).1 = false := decide_eq_false (fun z => by
            rw [ea] at z
            exact h59 z.1)
          rw [if_pos ⟨hm, hn⟩]
          exact fn_bad (by omega) h1b rfl ea
theorem eqF (ht : tpOk T n) : ∀ (f : Nat) (u : PSt) (v : MSt) (F : Nat), pOk n u → qOk n v → qCk false v → alk u v → f + 1 + v.2.2.2.2.1 = 4 → F + v.2.2.2.1 = 6 → sam (psM T n (pgS T n false (f + 1) u)) (rdL T n F v false) := by
  intro f
  induction f with
  | zero =>
    intro u v F hu hv hc ha hf hF
    exact eqF0 ht (fun f2 h => absurd h (Nat.succ_ne_zero f2).symm) u v F hu hv hc ha hf hF
  | succ f ih =>
    intro u v F hu hv hc ha hf hF
    exact eqF0 ht (fun f2 h => by
      have e : f2 = f := by omega
      subst e
      exact ih) u v F hu hv hc ha hf hF
end PEQ
theorem par_eq {T : Nat → Nat} {n : Nat} (ht : tpOk T n) (K W : Nat → Nat) (st0 nu : Nat) (R : Nat → Nat) : sam (psS T n K W) (rdL T n 6 (0, st0, nu, 0, 0, R) false) := by
  rw [psS_M]
  refine eqF ht 3 (0, 0, 0, 1, 1, K, W) (0, st0, nu, 0, 0, R) 6 ?_ ?_ ?_ ?_ rfl rfl
  · exact ⟨Nat.zero_le _, ⟨Nat.zero_le _, fun j hj => absurd hj (Nat.not_lt_zero _), fun j hj => absurd hj (Nat.not_lt_zero _), fun i j _ hj => absurd hj (Nat.not_lt_zero _)⟩, Nat.le_refl _, rfl, rfl⟩
  · exact ⟨Nat.zero_le _, Nat.zero_le _, fun j hj => absurd hj (Nat.not_lt_zero _), fun j hj => absurd hj (Nat.not_lt_zero _), fun i j _ hj => absurd hj (Nat.not_lt_zero _)⟩
  · exact ⟨Nat.le_refl _, rfl, Nat.zero_le _⟩
  · exact ⟨rfl, rfl, rfl, fun j hj => absurd hj (Nat.not_lt_zero _)⟩
